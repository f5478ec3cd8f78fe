section
/-! THE SMALL MACHINE. A state: (pc, locals, stack, world, cells made, slots made); a reference is a place of the world. -/
abbrev mx_C : Type := (Nat × vp_A) ⊕ (Nat × List Value)
abbrev mx_W : Type := List mx_C
abbrev mx_L : Type := List (Nat × Value)
abbrev mx_S : Type := Nat × mx_L × List Value × mx_W × Nat × Nat
abbrev mx_A : Type := Option Value × mx_W × Nat × Nat
/-- a method: name, own class, bytes, locals, answer, rank, parameters, kind (0 of an object, 1 static, 2 a constructor) and class; its links: fields (index, class, place), calls (index, number), classes (index, class), int constants, long constants -/
abbrev mx_M : Type := MethodName × String × ByteArray × Nat × Option FieldType × Nat × Nat × (Nat × Nat) × List (Nat × Nat × Nat) × List (Nat × Nat) × List (Nat × Nat) × List (Nat × Int32) × List (Nat × Int64)
abbrev mx_y (M : mx_M) : MethodName := M.1
abbrev mx_own (M : mx_M) : String := M.2.1
abbrev mx_cc (M : mx_M) : ByteArray := M.2.2.1
abbrev mx_ml (M : mx_M) : Nat := M.2.2.2.1
abbrev mx_ret (M : mx_M) : Option FieldType := M.2.2.2.2.1
abbrev mx_rk (M : mx_M) : Nat := M.2.2.2.2.2.1
abbrev mx_np (M : mx_M) : Nat := M.2.2.2.2.2.2.1
abbrev mx_kd (M : mx_M) : Nat := M.2.2.2.2.2.2.2.1.1
abbrev mx_ci (M : mx_M) : Nat := M.2.2.2.2.2.2.2.1.2
abbrev mx_lf (M : mx_M) : List (Nat × Nat × Nat) := M.2.2.2.2.2.2.2.2.1
abbrev mx_lm (M : mx_M) : List (Nat × Nat) := M.2.2.2.2.2.2.2.2.2.1
abbrev mx_lc (M : mx_M) : List (Nat × Nat) := M.2.2.2.2.2.2.2.2.2.2.1
abbrev mx_lk (M : mx_M) : List (Nat × Int32) := M.2.2.2.2.2.2.2.2.2.2.2.1
abbrev mx_ll (M : mx_M) : List (Nat × Int64) := M.2.2.2.2.2.2.2.2.2.2.2.2
def mx_fd {α : Type} (l : List (Nat × α)) (i : Nat) : Option α := (l.find? (fun q => q.1 == i)).map (fun q => q.2)
theorem mx_fd_mem {α : Type} {l : List (Nat × α)} {i : Nat} {a : α} (h : mx_fd l i = some a) : (i, a) ∈ l := by
  unfold mx_fd at h
  cases hq : l.find? (fun q => q.1 == i) with
  | none => rw [hq] at h; cases h
  | some q =>
    rw [hq] at h
    have h1 := List.mem_of_find?_eq_some hq
    have h2 := List.find?_some hq
    obtain ⟨q1, q2⟩ := q
    have e1 : q1 = i := by simpa using h2
    have e2 : q2 = a := by simpa using h
    rw [← e1, ← e2]
    exact h1
/-- a value over the heap: a place becomes an address -/
def mx_v (ad : Nat → Nat) (v : Value) : Value := match v with
  | .ref k => .ref (ad k)
  | v => v
theorem mx_v_cat (ad : Nat → Nat) (v : Value) : (mx_v ad v).category = v.category := by cases v <;> rfl
def mx_l (ad : Nat → Nat) (L : mx_L) : List (Nat × Value) := L.map (fun q => (q.1, mx_v ad q.2))
def mx_c (cT : Nat → ClassId) (ad : Nat → Nat) (c : mx_C) : va_E := match c with
  | .inl a => .inl (cT a.1, a.2)
  | .inr o => .inr (o.1, o.2.map (mx_v ad))
def mx_w (cT : Nat → ClassId) (ad : Nat → Nat) (w : mx_W) : va_W := w.mapIdx fun k c => (ad k, mx_c cT ad c)
theorem mx_w_at {cT : Nat → ClassId} {ad : Nat → Nat} {w : mx_W} {k : Nat} {c : mx_C} (h : w[k]? = some c) : (mx_w cT ad w)[k]? = some (ad k, mx_c cT ad c) := by
  unfold mx_w
  rw [List.getElem?_mapIdx, h]
  rfl
theorem mx_w_len {cT : Nat → ClassId} {ad : Nat → Nat} {w : mx_W} : (mx_w cT ad w).length = w.length := by
  unfold mx_w
  exact List.length_mapIdx
theorem mx_w_set {cT : Nat → ClassId} {ad : Nat → Nat} {w : mx_W} {k : Nat} {c : mx_C} : (mx_w cT ad w).set k (ad k, mx_c cT ad c) = mx_w cT ad (w.set k c) := by
  apply List.ext_getElem?
  intro j
  unfold mx_w
  rw [List.getElem?_set, List.getElem?_mapIdx, List.getElem?_mapIdx, List.getElem?_set, List.length_mapIdx]
  by_cases h : k = j
  · subst h
    by_cases h2 : k < w.length
    · simp [h2]
    · simp [h2]
  · simp [h]
def mx_okv (n : Nat) (v : Value) : Bool := match v with
  | .ref k => Nat.blt k n || Nat.ble 1000 k
  | _ => true
def mx_okc (n : Nat) (c : mx_C) : Bool := match c with
  | .inl _ => true
  | .inr o => o.2.all (mx_okv n)
def mx_okl (n : Nat) (L : mx_L) : Bool := L.all (fun q => mx_okv n q.2)
theorem mx_v_ag {n : Nat} {ad ad' : Nat → Nat} {v : Value} (h : mx_okv n v = true) (ha : ∀ k, k < n ∨ 1000 ≤ k → ad' k = ad k) : mx_v ad' v = mx_v ad v := by
  cases v with
  | ref k =>
    have hk : k < n ∨ 1000 ≤ k := (Bool.or_eq_true_iff.mp h).imp (fun z => Nat.le_of_ble_eq_true z) (fun z => Nat.le_of_ble_eq_true z)
    show Value.ref (ad' k) = Value.ref (ad k)
    rw [ha k hk]
  | _ => rfl
theorem mx_vs_ag {n : Nat} {ad ad' : Nat → Nat} {S : List Value} (h : S.all (mx_okv n) = true) (ha : ∀ k, k < n ∨ 1000 ≤ k → ad' k = ad k) : S.map (mx_v ad') = S.map (mx_v ad) := by
  apply List.map_congr_left
  intro v hv
  exact mx_v_ag (List.all_eq_true.mp h v hv) ha
theorem mx_l_ag {n : Nat} {ad ad' : Nat → Nat} {L : mx_L} (h : mx_okl n L = true) (ha : ∀ k, k < n ∨ 1000 ≤ k → ad' k = ad k) : mx_l ad' L = mx_l ad L := by
  apply List.map_congr_left
  intro q hq
  rw [mx_v_ag (List.all_eq_true.mp h q hq) ha]
theorem mx_c_ag {cT : Nat → ClassId} {n : Nat} {ad ad' : Nat → Nat} {c : mx_C} (h : mx_okc n c = true) (ha : ∀ k, k < n ∨ 1000 ≤ k → ad' k = ad k) : mx_c cT ad' c = mx_c cT ad c := by
  cases c with
  | inl a => rfl
  | inr o => show Sum.inr (o.1, o.2.map (mx_v ad')) = Sum.inr (o.1, o.2.map (mx_v ad)); rw [mx_vs_ag h ha]
def mx_ext (ad : Nat → Nat) (n q : Nat) : Nat → Nat := fun k => if k = n then q else ad k
theorem mx_ext_ag {ad : Nat → Nat} {n q : Nat} (hn : n < 1000) : ∀ k, k < n ∨ 1000 ≤ k → mx_ext ad n q k = ad k := fun k h => by
  unfold mx_ext
  rw [if_neg (by omega)]
theorem mx_w_push {cT : Nat → ClassId} {ad : Nat → Nat} {w : mx_W} {c : mx_C} {q : Nat} (hl : w.length < 1000) (hw : w.all (mx_okc w.length) = true) (hc : mx_okc w.length c = true) : mx_w cT ad w ++ [(q, mx_c cT ad c)] = mx_w cT (mx_ext ad w.length q) (w ++ [c]) := by
  unfold mx_w
  rw [List.mapIdx_append]
  congr 1
  · apply List.mapIdx_eq_mapIdx_iff.mpr
    intro i hi
    have h1 := List.all_eq_true.mp hw w[i] (List.getElem_mem hi)
    rw [mx_ext_ag hl i (Or.inl hi), mx_c_ag h1 (mx_ext_ag hl)]
  · simp only [List.mapIdx_cons, List.mapIdx_nil]
    rw [mx_c_ag hc (mx_ext_ag hl)]
    simp [mx_ext]
/-- locals: a store of one word; a local that is there keeps its place in the list -/
def mx_st1 (L : mx_L) (i : Nat) (v : Value) : mx_L := bif (L.filter (fun q => !(q.1 + 1 == i && q.2.category == 2))).any (fun q => q.1 == i) then (L.filter (fun q => !(q.1 + 1 == i && q.2.category == 2))).map (fun q => bif q.1 == i then (i, v) else q) else (i, v) :: L.filter (fun q => !(q.1 + 1 == i && q.2.category == 2))
theorem mx_st1_in {L : mx_L} {i : Nat} {v : Value} : ∀ q ∈ mx_st1 L i v, q ∈ (i, v) :: L.filter (fun q => !(q.1 == i) && !(q.1 + 1 == i && q.2.category == 2)) := by
  intro q hq
  have key : ∀ z ∈ L.filter (fun q => !(q.1 + 1 == i && q.2.category == 2)), (z.1 == i) = false → z ∈ (i, v) :: L.filter (fun q => !(q.1 == i) && !(q.1 + 1 == i && q.2.category == 2)) := by
    intro z hz h1
    obtain ⟨h2, h3⟩ := List.mem_filter.mp hz
    refine List.mem_cons_of_mem _ (List.mem_filter.mpr ⟨h2, ?_⟩)
    rw [h1]
    exact h3
  unfold mx_st1 at hq
  cases hb : (L.filter (fun q => !(q.1 + 1 == i && q.2.category == 2))).any (fun q => q.1 == i) with
  | true =>
    rw [hb] at hq
    obtain ⟨z, hz, rfl⟩ := List.mem_map.mp hq
    cases h1 : (z.1 == i) with
    | true => exact List.mem_cons_self
    | false => exact key z hz h1
  | false =>
    rw [hb] at hq
    rcases List.mem_cons.mp hq with rfl | hq
    · exact List.mem_cons_self
    · refine key q hq ?_
      rw [List.any_eq_false] at hb
      simpa using hb q hq
theorem mx_st1_has {ls : Array Slot} {nL : Nat} {ad : Nat → Nat} {L : mx_L} {i : Nat} {v : Value} (h : lv_has ls nL ((i, mx_v ad v) :: (mx_l ad L).filter (fun q => !(q.1 == i) && !(q.1 + 1 == i && q.2.category == 2)))) : lv_has ls nL (mx_l ad (mx_st1 L i v)) := by
  refine ⟨h.1, h.2.1, fun q hq => h.2.2 q ?_⟩
  obtain ⟨z, hz, rfl⟩ := List.mem_map.mp hq
  rcases List.mem_cons.mp (mx_st1_in z hz) with rfl | h1
  · exact List.mem_cons_self
  · obtain ⟨h2, h3⟩ := List.mem_filter.mp h1
    refine List.mem_cons_of_mem _ (List.mem_filter.mpr ⟨List.mem_map.mpr ⟨z, h2, rfl⟩, ?_⟩)
    show (!(z.1 == i) && !(z.1 + 1 == i && (mx_v ad z.2).category == 2)) = true
    rw [mx_v_cat]
    exact h3
theorem mx_l_mem {ad : Nat → Nat} {L : mx_L} {i : Nat} {v : Value} (h : mx_fd L i = some v) : (i, mx_v ad v) ∈ mx_l ad L := List.mem_map.mpr ⟨(i, v), mx_fd_mem h, rfl⟩
end
section
/-! what one instruction does in the small machine -/
/-- a constant -/
def mx_k (n : Int) : Int32 := match n with
  | .ofNat k => nI k
  | .negSucc k => -nI (k + 1)
theorem mx_k_eq (n : Int) : Int32.ofInt n = mx_k n := by
  cases n with
  | ofNat k => rfl
  | negSucc k =>
    show Int32.ofInt (Int.negSucc k) = -Int32.ofNat (k + 1)
    rw [Int.negSucc_eq, Int32.ofInt_neg]
    rfl
theorem mx_k_8 {n : Int} (h1 : -128 ≤ n) (h2 : n < 128) : (Int8.ofInt n).toInt32 = mx_k n := by
  rw [← mx_k_eq]
  apply Int32.toInt_inj.mp
  rw [Int8.toInt_toInt32, Int8.toInt_ofInt_of_le (by omega) (by omega), Int32.toInt_ofInt_of_le (by omega) (by omega)]
theorem mx_k_16 {n : Int} (h1 : -32768 ≤ n) (h2 : n < 32768) : (Int16.ofInt n).toInt32 = mx_k n := by
  rw [← mx_k_eq]
  apply Int32.toInt_inj.mp
  rw [Int16.toInt_toInt32, Int16.toInt_ofInt_of_le (by omega) (by omega), Int32.toInt_ofInt_of_le (by omega) (by omega)]
def mx_ii (f : Int32 → Int32 → Int32) (st : mx_S) : Option mx_S := match st with
  | (pc, L, .int y :: .int x :: r, k) => some (pc + 1, L, .int (f x y) :: r, k)
  | _ => none
def mx_dv (f : Int32 → Int32 → Int32) (st : mx_S) : Option mx_S := match st with
  | (pc, L, .int y :: .int x :: r, k) => if y = 0 then none else some (pc + 1, L, .int (f x y) :: r, k)
  | _ => none
def mx_push (n : Nat) (v : Value) (st : mx_S) : Option mx_S := some (st.1 + n, st.2.1, v :: st.2.2.1, st.2.2.2)
def mx_ldi (n i : Nat) (st : mx_S) : Option mx_S := match mx_fd st.2.1 i with
  | some (.int x) => some (st.1 + n, st.2.1, .int x :: st.2.2.1, st.2.2.2)
  | _ => none
def mx_ldl (n i : Nat) (st : mx_S) : Option mx_S := match mx_fd st.2.1 i with
  | some (.long x) => some (st.1 + n, st.2.1, .long x :: st.2.2.1, st.2.2.2)
  | _ => none
def mx_lda (n i : Nat) (st : mx_S) : Option mx_S := match mx_fd st.2.1 i with
  | some (.ref x) => some (st.1 + n, st.2.1, .ref x :: st.2.2.1, st.2.2.2)
  | _ => none
def mx_sti (n i ml : Nat) (st : mx_S) : Option mx_S := match st with
  | (pc, L, .int x :: r, k) => bif Nat.blt i ml then some (pc + n, mx_st1 L i (.int x), r, k) else none
  | _ => none
def mx_inc (i ml : Nat) (n : Int) (st : mx_S) : Option mx_S := match mx_fd st.2.1 i with
  | some (.int x) => bif Nat.blt i ml then some (st.1 + 3, mx_st1 st.2.1 i (.int (x + mx_k n)), st.2.2) else none
  | _ => none
/-- a jump's end -/
def mx_to (pc : Nat) (off : Int) : Nat := ((pc : Int) + off).toNat
def mx_cnd (c : Jvm.ClassFile.Cond) (x y : Int32) : Bool := match c with
  | .eq => decide (x = y)
  | .ne => decide (¬ x = y)
  | .lt => decide (x < y)
  | .ge => decide (y ≤ x)
  | .gt => decide (y < x)
  | .le => decide (x ≤ y)
def mx_i2 (f : Int64 → Int64 → Int64) (st : mx_S) : Option mx_S := match st with
  | (pc, L, .long y :: .long x :: r, k) => some (pc + 1, L, .long (f x y) :: r, k)
  | _ => none
def mx_ls (f : Int64 → Int32 → Int64) (st : mx_S) : Option mx_S := match st with
  | (pc, L, .int y :: .long x :: r, k) => some (pc + 1, L, .long (f x y) :: r, k)
  | _ => none
def mx_l2i (st : mx_S) : Option mx_S := match st with
  | (pc, L, .long x :: r, k) => some (pc + 1, L, .int x.toInt32 :: r, k)
  | _ => none
def mx_dup (st : mx_S) : Option mx_S := match st with
  | (pc, L, v :: r, k) => bif v.category == 1 then some (pc + 1, L, v :: v :: r, k) else none
  | _ => none
def mx_pop (st : mx_S) : Option mx_S := match st with
  | (pc, L, v :: r, k) => bif v.category == 1 then some (pc + 1, L, r, k) else none
  | _ => none
def mx_dup2 (st : mx_S) : Option mx_S := match st with
  | (pc, L, v :: u :: r, k) => bif v.category == 1 && u.category == 1 then some (pc + 1, L, v :: u :: v :: u :: r, k) else none
  | _ => none
def mx_goto (off : Int) (st : mx_S) : Option mx_S := bif decide (0 ≤ (st.1 : Int) + off) then some (mx_to st.1 off, st.2) else none
/-- fields: what lies at the place, and its class -/
def mx_getf (q : Option (Nat × Nat)) (st : mx_S) : Option mx_S := match q, st with
  | some (ci, k), (pc, L, .ref a :: r, w, n) => match w[a]? with
    | some (.inr (cj, fs)) => (match fs[k]? with
      | some v => bif cj == ci then some (pc + 3, L, v :: r, w, n) else none
      | none => none)
    | _ => none
  | _, _ => none
/-- may a value be stored in a field of this type -/
def mx_fit (ty : FieldType) (v : Value) : Bool := match ty, v with
  | .int, .int _ => true
  | .boolean, .int x => x == 0 || x == 1
  | .object _, .ref _ => true
  | .array _, .ref _ => true
  | _, _ => false
def mx_putf (cl : List vw_C) (ty : Nat → Nat → FieldType) (M : mx_M) (q : Option (Nat × Nat)) (st : mx_S) : Option mx_S := match q, st with
  | some (ci, k), (pc, L, v :: .ref a :: r, w, n) => match w[a]? with
    | some (.inr (cj, fs)) => bif cj == ci && Nat.blt k fs.length && mx_fit (ty ci k) v then (match cl[ci]? with
      | some rr => bif !(rr.2.1 k).2.2.2 || (mx_kd M == 2 && ci == mx_ci M) then some (pc + 3, L, r, w.set a (.inr (ci, fs.set k v)), n) else none
      | none => none) else none
    | _ => none
  | _, _ => none
def mx_alen (st : mx_S) : Option mx_S := match st with
  | (pc, L, .ref a :: r, w, n) => match w[a]? with
    | some (.inl (t, x)) => bif Nat.blt t 3 then some (pc + 1, L, .int (Int32.ofNat x.1) :: r, w, n) else none
    | _ => none
  | _ => none
/-- loads and stores in arrays of ints (kind 0) and of booleans (kind 1) -/
def mx_ald (t : Nat) (st : mx_S) : Option mx_S := match st with
  | (pc, L, .int i :: .ref a :: r, w, n) => match w[a]? with
    | some (.inl (t', N, .inl f)) => if t' = t ∧ ¬ (i < 0 ∨ N ≤ i.toNatClampNeg) then some (pc + 1, L, .int (f i.toNatClampNeg) :: r, w, n) else none
    | _ => none
  | _ => none
def mx_ast (t : Nat) (g : Int32 → Int32) (st : mx_S) : Option mx_S := match st with
  | (pc, L, .int x :: .int i :: .ref a :: r, w, n) => match w[a]? with
    | some (.inl (t', N, .inl f)) => if t' = t ∧ ¬ (i < 0 ∨ N ≤ i.toNatClampNeg) then some (pc + 1, L, r, w.set a (.inl (t, N, .inl (upd f i.toNatClampNeg (g x)))), n) else none
    | _ => none
  | _ => none
def mx_sta (n i ml : Nat) (st : mx_S) : Option mx_S := match st with
  | (pc, L, .ref x :: r, k) => bif Nat.blt i ml then some (pc + n, mx_st1 L i (.ref x), r, k) else none
  | _ => none
def mx_i2l (st : mx_S) : Option mx_S := match st with
  | (pc, L, .int x :: r, k) => some (pc + 1, L, .long x.toInt64 :: r, k)
  | _ => none
def mx_lcmp (st : mx_S) : Option mx_S := match st with
  | (pc, L, .long y :: .long x :: r, k) => some (pc + 1, L, .int (lg_cmp x y) :: r, k)
  | _ => none
def mx_lald (st : mx_S) : Option mx_S := match st with
  | (pc, L, .int i :: .ref a :: r, w, n) => match w[a]? with
    | some (.inl (t', N, .inr (.inl f))) => if t' = 2 ∧ ¬ (i < 0 ∨ N ≤ i.toNatClampNeg) then some (pc + 1, L, .long (f i.toNatClampNeg) :: r, w, n) else none
    | _ => none
  | _ => none
def mx_last (st : mx_S) : Option mx_S := match st with
  | (pc, L, .long x :: .int i :: .ref a :: r, w, n) => match w[a]? with
    | some (.inl (t', N, .inr (.inl f))) => if t' = 2 ∧ ¬ (i < 0 ∨ N ≤ i.toNatClampNeg) then some (pc + 1, L, r, w.set a (.inl (2, N, .inr (.inl (vp_updL f i.toNatClampNeg x)))), n) else none
    | _ => none
  | _ => none
def mx_cs (S : List Value) : Nat := (S.map (fun v => v.category)).sum
def mx_tab (d lo hi : Int) (offs : Array Int) (st : mx_S) : Option mx_S := match st with
  | (pc, L, .int x :: r, k) => if x.toInt < lo ∨ hi < x.toInt then mx_goto d (pc, L, r, k) else (match offs[(x.toInt - lo).toNat]? with
    | some off => mx_goto off (pc, L, r, k)
    | none => none)
  | _ => none
def mx_if (c : Jvm.ClassFile.Cond) (off : Int) (st : mx_S) : Option mx_S := match st with
  | (pc, L, .int x :: r, k) => bif decide (0 ≤ (pc : Int) + off) then some (cond (mx_cnd c x 0) (mx_to pc off) (pc + 3), L, r, k) else none
  | _ => none
def mx_cmp (c : Jvm.ClassFile.Cond) (off : Int) (st : mx_S) : Option mx_S := match st with
  | (pc, L, .int y :: .int x :: r, k) => bif decide (0 ≤ (pc : Int) + off) then some (cond (mx_cnd c x y) (mx_to pc off) (pc + 3), L, r, k) else none
  | _ => none
/-- the calls of the JDK that are steps here: 0 Object's constructor, 1 Math.max, 2 Math.min, 3 System.arraycopy -/
def mx_j0 (st : mx_S) : Option mx_S := match st with
  | (pc, L, .ref _ :: r, k) => bif Nat.ble (mx_cs r) 8 then some (pc + 3, L, r, k) else none
  | _ => none
def mx_mm (f : Int32 → Int32 → Int32) (st : mx_S) : Option mx_S := match st with
  | (pc, L, .int y :: .int x :: r, k) => bif Nat.ble (mx_cs r) 8 then some (pc + 3, L, .int (f x y) :: r, k) else none
  | _ => none
def mx_cp (st : mx_S) : Option mx_S := match st with
  | (pc, L, .int z :: .int dp :: .ref a1 :: .int sp :: .ref a0 :: r, w, k) => (match w[a0]?, w[a1]? with
    | some (.inl (t0, n0, .inl f)), some (.inl (t1, n1, .inl g)) => if t0 = 0 ∧ t1 = 0 ∧ Nat.ble (mx_cs r) 8 = true ∧ ¬ sp < 0 ∧ ¬ dp < 0 ∧ ¬ z < 0 ∧ sp.toNatClampNeg + z.toNatClampNeg ≤ n0 ∧ dp.toNatClampNeg + z.toNatClampNeg ≤ n1 then some (pc + 3, L, r, w.set a1 (.inl (0, n1, .inl (va_cpy f g sp.toNatClampNeg dp.toNatClampNeg z.toNatClampNeg))), k) else none
    | _, _ => none)
  | _ => none
def mx_jdk (n : Nat) (st : mx_S) : Option mx_S := match n with
  | 1 => mx_mm (fun x y => if x < y then y else x) st
  | 2 => mx_mm (fun x y => if y < x then y else x) st
  | 3 => mx_cp st
  | _ => none
/-- all places that the state names are there -/
def mx_all (st : mx_S) : Bool := Nat.blt st.2.2.2.1.length 1000 && mx_okl st.2.2.2.1.length st.2.1 && st.2.2.1.all (mx_okv st.2.2.2.1.length) && st.2.2.2.1.all (mx_okc st.2.2.2.1.length)
def mx_newc (cl : List vw_C) (ty : Nat → Nat → FieldType) (q : Option Nat) (st : mx_S) : Option mx_S := match q with
  | some ci => (match cl[ci]? with
    | some rr => bif mx_all st then some (st.1 + 3, st.2.1, .ref st.2.2.2.1.length :: st.2.2.1, st.2.2.2.1 ++ [.inr (ci, (List.range rr.2.2).map (fun j => defaultValue (ty ci j)))], st.2.2.2.2.1 + 1, st.2.2.2.2.2 + rr.2.2) else none
    | none => none)
  | none => none
def mx_newa (t : ArrayType) (st : mx_S) : Option mx_S := match st with
  | (pc, L, .int n :: r, w, kc, ks) => bif mx_all st then (if ¬ n < 0 ∧ n.toNatClampNeg ≤ 65536 then (match t with
    | .int => some (pc + 2, L, .ref w.length :: r, w ++ [.inl (0, n.toNatClampNeg, .inl (fun _ => 0))], kc + 1, ks + n.toNatClampNeg)
    | .boolean => some (pc + 2, L, .ref w.length :: r, w ++ [.inl (1, n.toNatClampNeg, .inl (fun _ => 0))], kc + 1, ks + n.toNatClampNeg)
    | .long => some (pc + 2, L, .ref w.length :: r, w ++ [.inl (2, n.toNatClampNeg, .inr (.inl (fun _ => 0)))], kc + 1, ks + n.toNatClampNeg)
    | _ => none) else none) else none
  | _ => none
def mx_lok (i : Instr) (len : Nat) : Bool := match i with
  | .tableswitch .. => true
  | .bipush _ => len == 2
  | .iload _ => len == 2
  | .istore _ => len == 2
  | .aload _ => len == 2
  | .astore _ => len == 2
  | .lload _ => len == 2
  | .ldc _ => len == 2
  | .newarray _ => len == 2
  | .sipush _ => len == 3
  | .iinc .. => len == 3
  | .goto _ => len == 3
  | .if_icmp .. => len == 3
  | .ifCond .. => len == 3
  | .getfield _ => len == 3
  | .putfield _ => len == 3
  | .new _ => len == 3
  | .invokespecial _ => len == 3
  | .invokestatic _ => len == 3
  | .invokevirtual _ => len == 3
  | .ldc_w _ => len == 3
  | .ldc2_w _ => len == 3
  | _ => len == 1
def mx_stp (cl : List vw_C) (ty : Nat → Nat → FieldType) (M : mx_M) (i : Instr) (st : mx_S) : Option mx_S := match i with
  | .iconst n => mx_push 1 (.int (mx_k n)) st
  | .bipush n => bif decide (-128 ≤ n) && decide (n < 128) then mx_push 2 (.int (mx_k n)) st else none
  | .sipush n => bif decide (-32768 ≤ n) && decide (n < 32768) then mx_push 3 (.int (mx_k n)) st else none
  | .ldc x => (mx_fd (mx_lk M) x).bind fun v => mx_push 2 (.int v) st
  | .ldc_w x => (mx_fd (mx_lk M) x).bind fun v => mx_push 3 (.int v) st
  | .ldc2_w x => (mx_fd (mx_ll M) x).bind fun v => mx_push 3 (.long v) st
  | .iload x => mx_ldi 2 x st
  | .iload_n x => mx_ldi 1 x.val st
  | .lload x => mx_ldl 2 x st
  | .lload_n x => mx_ldl 1 x.val st
  | .aload x => mx_lda 2 x st
  | .aload_n x => mx_lda 1 x.val st
  | .istore x => mx_sti 2 x (mx_ml M) st
  | .istore_n x => mx_sti 1 x.val (mx_ml M) st
  | .iinc x n => mx_inc x (mx_ml M) n st
  | .iadd => mx_ii (fun x y => x + y) st
  | .isub => mx_ii (fun x y => x - y) st
  | .imul => mx_ii (fun x y => x * y) st
  | .iand => mx_ii (fun x y => x &&& y) st
  | .ior => mx_ii (fun x y => x ||| y) st
  | .ixor => mx_ii (fun x y => x ^^^ y) st
  | .ishl => mx_ii (fun x y => x <<< (y &&& 31)) st
  | .ishr => mx_ii (fun x y => x >>> (y &&& 31)) st
  | .iushr => mx_ii (fun x y => (x.toUInt32 >>> (y.toUInt32 &&& Int32.toUInt32 31)).toInt32) st
  | .idiv => mx_dv (fun x y => x / y) st
  | .irem => mx_dv (fun x y => x - x / y * y) st
  | .land => mx_i2 (fun x y => x &&& y) st
  | .lshr => mx_ls (fun x y => x >>> (y.toInt64 &&& 63)) st
  | .lushr => mx_ls (fun x y => (x.toUInt64 >>> (y.toInt64.toUInt64 &&& Int64.toUInt64 63)).toInt64) st
  | .l2i => mx_l2i st
  | .dup => mx_dup st
  | .dup2 => mx_dup2 st
  | .pop => mx_pop st
  | .goto off => mx_goto off st
  | .ifCond c off => mx_if c off st
  | .if_icmp c off => mx_cmp c off st
  | .tableswitch d lo hi offs => mx_tab d lo hi offs st
  | .getfield x => mx_getf (mx_fd (mx_lf M) x) st
  | .putfield x => mx_putf cl ty M (mx_fd (mx_lf M) x) st
  | .arraylength => mx_alen st
  | .iaload => mx_ald 0 st
  | .iastore => mx_ast 0 (fun x => x) st
  | .baload => mx_ald 1 st
  | .bastore => mx_ast 1 (vp_nar .boolean) st
  | .new x => mx_newc cl ty (mx_fd (mx_lc M) x) st
  | .newarray t => mx_newa t st
  | .invokespecial x => (mx_fd (mx_lm M) x).bind fun n => bif n == 0 && Nat.blt 0 (mx_rk M) then mx_j0 st else none
  | .invokestatic x => (mx_fd (mx_lm M) x).bind fun n => bif Nat.blt 0 (mx_rk M) then mx_jdk n st else none
  | .astore x => mx_sta 2 x (mx_ml M) st
  | .astore_n x => mx_sta 1 x.val (mx_ml M) st
  | .i2l => mx_i2l st
  | .lcmp => mx_lcmp st
  | .lor => mx_i2 (fun x y => x ||| y) st
  | .lshl => mx_ls (fun x y => x <<< (y.toInt64 &&& 63)) st
  | .laload => mx_lald st
  | .lastore => mx_last st
  | _ => none
/-- one step, but no call and no return -/
def mx_go (cl : List vw_C) (ty : Nat → Nat → FieldType) (M : mx_M) (i : Instr) (len : Nat) (st : mx_S) : Option mx_S := bif mx_lok i len then mx_stp cl ty M i st else none
/-- a return -/
def mx_end (M : mx_M) (i : Instr) (st : mx_S) : Option mx_A := match i, mx_ret M, st with
  | .ireturn, some .int, (_, _, [.int v], k) => some (some (.int v), k)
  | .ireturn, some .boolean, (_, _, [.int v], k) => if v = 0 ∨ v = 1 then some (some (.int v), k) else none
  | .return_, none, (_, _, [], k) => some (none, k)
  | _, _, _ => none
/-- a call: the callee's number, its arguments in order, the rest of the stack -/
def mx_cal (MT : Nat → Option mx_M) (M : mx_M) (i : Instr) (st : mx_S) : Option (Nat × mx_M × List Value × List Value) := match i with
  | .invokestatic x => (mx_fd (mx_lm M) x).bind fun n => (MT n).bind fun M' => bif mx_kd M' == 1 && Nat.blt (mx_rk M') (mx_rk M) && Nat.ble (mx_np M') st.2.2.1.length && Nat.ble (mx_cs (st.2.2.1.drop (mx_np M'))) 8 && Nat.ble 4 n then some (n, M', (st.2.2.1.take (mx_np M')).reverse, st.2.2.1.drop (mx_np M')) else none
  | .invokevirtual x => (mx_fd (mx_lm M) x).bind fun n => (MT n).bind fun M' => bif mx_kd M' == 0 && Nat.blt (mx_rk M') (mx_rk M) && Nat.ble (mx_np M') st.2.2.1.length && Nat.ble 4 n then (match st.2.2.1.drop (mx_np M') with
    | .ref a :: rest => (match st.2.2.2.1[a]? with
      | some (.inr (ci, _)) => bif Nat.ble (mx_cs rest) 8 && ci == mx_ci M' then some (n, M', .ref a :: (st.2.2.1.take (mx_np M')).reverse, rest) else none
      | _ => none)
    | _ => none) else none
  | .invokespecial x => (mx_fd (mx_lm M) x).bind fun n => (MT n).bind fun M' => bif mx_kd M' == 2 && Nat.blt (mx_rk M') (mx_rk M) && Nat.ble (mx_np M') st.2.2.1.length && Nat.ble 4 n then (match st.2.2.1.drop (mx_np M') with
    | .ref a :: rest => bif Nat.ble (mx_cs rest) 8 then some (n, M', .ref a :: (st.2.2.1.take (mx_np M')).reverse, rest) else none
    | _ => none) else none
  | _ => none
/-- a run from a state to an answer, within f steps -/
def mx_R (cl : List vw_C) (ty : Nat → Nat → FieldType) (MT : Nat → Option mx_M) : Nat → Nat → mx_S → mx_A → Prop
  | 0, _, _, _ => False
  | f + 1, mi, st, r => ∃ (M : mx_M) (i : Instr) (len : Nat), MT mi = some M ∧ decode (mx_cc M) st.1 = .ok (i, len) ∧
      ((len = 1 ∧ mx_end M i st = some r) ∨ (∃ st', mx_go cl ty M i len st = some st' ∧ mx_R cl ty MT f mi st' r) ∨
       (len = 3 ∧ ∃ (n : Nat) (M' : mx_M) (av rest : List Value) (q : mx_A), mx_cal MT M i st = some (n, M', av, rest) ∧ Nat.ble (mx_cs av) (mx_ml M') = true ∧ mx_R cl ty MT f n (0, lv_args 0 av, [], st.2.2.2.1, 0, 0) q ∧
          (q.2.2.1 = 0 ∨ (Nat.ble q.2.1.length 1000 && mx_okl st.2.2.2.1.length st.2.1 && rest.all (mx_okv st.2.2.2.1.length)) = true) ∧
          mx_R cl ty MT f mi (st.1 + 3, st.2.1, q.1.toList ++ rest, q.2.1, st.2.2.2.2.1 + q.2.2.1, st.2.2.2.2.2 + q.2.2.2) r))
theorem mx_R_up {cl : List vw_C} {ty : Nat → Nat → FieldType} {MT : Nat → Option mx_M} : ∀ (f : Nat) (mi : Nat) (st : mx_S) (r : mx_A), mx_R cl ty MT f mi st r → mx_R cl ty MT (f + 1) mi st r := by
  intro f
  induction f with
  | zero => intro mi st r h; exact h.elim
  | succ f ih =>
    intro mi st r h
    obtain ⟨M, i, len, h1, h2, h3⟩ := h
    refine ⟨M, i, len, h1, h2, ?_⟩
    rcases h3 with h3 | ⟨st', h3, h4⟩ | ⟨h3, n, M', av, rest, q, h4, h8, h5, h6, h7⟩
    · exact Or.inl h3
    · exact Or.inr (Or.inl ⟨st', h3, ih _ _ _ h4⟩)
    · exact Or.inr (Or.inr ⟨h3, n, M', av, rest, q, h4, h8, ih _ _ _ h5, h6, ih _ _ _ h7⟩)
theorem mx_R_le {cl : List vw_C} {ty : Nat → Nat → FieldType} {MT : Nat → Option mx_M} {f g : Nat} (hfg : f ≤ g) {mi : Nat} {st : mx_S} {r : mx_A} (h : mx_R cl ty MT f mi st r) : mx_R cl ty MT g mi st r := by
  induction hfg with
  | refl => exact h
  | step _ ih => exact mx_R_up _ _ _ _ ih
/-- a run of any length -/
def mx_X (cl : List vw_C) (ty : Nat → Nat → FieldType) (MT : Nat → Option mx_M) (mi : Nat) (st : mx_S) (r : mx_A) : Prop := ∃ f, mx_R cl ty MT f mi st r
theorem mx_X.go {cl : List vw_C} {ty : Nat → Nat → FieldType} {MT : Nat → Option mx_M} {mi : Nat} {st st' : mx_S} {r : mx_A} {M : mx_M} {i : Instr} {len : Nat} (h1 : MT mi = some M) (h2 : decode (mx_cc M) st.1 = .ok (i, len)) (h3 : mx_go cl ty M i len st = some st') (k : mx_X cl ty MT mi st' r) : mx_X cl ty MT mi st r := by
  obtain ⟨f, k⟩ := k
  exact ⟨f + 1, M, i, len, h1, h2, Or.inr (Or.inl ⟨st', h3, k⟩)⟩
theorem mx_X.fin {cl : List vw_C} {ty : Nat → Nat → FieldType} {MT : Nat → Option mx_M} {mi : Nat} {st : mx_S} {r : mx_A} {M : mx_M} {i : Instr} (h1 : MT mi = some M) (h2 : decode (mx_cc M) st.1 = .ok (i, 1)) (h3 : mx_end M i st = some r) : mx_X cl ty MT mi st r := ⟨1, M, i, 1, h1, h2, Or.inl ⟨rfl, h3⟩⟩
theorem mx_X.call {cl : List vw_C} {ty : Nat → Nat → FieldType} {MT : Nat → Option mx_M} {mi : Nat} {st : mx_S} {r : mx_A} {M M' : mx_M} {i : Instr} {n : Nat} {av rest : List Value} {q : mx_A} (h1 : MT mi = some M) (h2 : decode (mx_cc M) st.1 = .ok (i, 3)) (h3 : mx_cal MT M i st = some (n, M', av, rest)) (h6 : Nat.ble (mx_cs av) (mx_ml M') = true) (h4 : mx_X cl ty MT n (0, lv_args 0 av, [], st.2.2.2.1, 0, 0) q)
    (h5 : q.2.2.1 = 0 ∨ (Nat.ble q.2.1.length 1000 && mx_okl st.2.2.2.1.length st.2.1 && rest.all (mx_okv st.2.2.2.1.length)) = true) (k : mx_X cl ty MT mi (st.1 + 3, st.2.1, q.1.toList ++ rest, q.2.1, st.2.2.2.2.1 + q.2.2.1, st.2.2.2.2.2 + q.2.2.2) r) : mx_X cl ty MT mi st r := by
  obtain ⟨f, h4⟩ := h4
  obtain ⟨g, k⟩ := k
  exact ⟨(f + g) + 1, M, i, 3, h1, h2, Or.inr (Or.inr ⟨rfl, n, M', av, rest, q, h3, h6, mx_R_le (Nat.le_add_right f g) h4, h5, mx_R_le (Nat.le_add_left g f) k⟩)⟩
end
section
/-! the small machine's steps are the machine's -/
def mx_tys (cT : Nat → ClassId) : List (ClassId × FieldType) := [(cT 0, .int), (cT 1, .boolean), (cT 2, .long)]
/-- the words of a class -/
def mx_okC (GT : List Jvm.Cond) (ty : Nat → Nat → FieldType) (ci : Nat) (r : vw_C) : Prop := (∀ w ∈ u_ws r.1 r.2.1 r.2.2, w ∈ GT) ∧ (∀ k, k < r.2.2 → parseFieldDescriptor (r.2.1 k).2.2.1 = some (ty ci k)) ∧ (∀ a, a < r.2.2 → ∀ b, b < r.2.2 → a ≠ b → (r.2.1 a).2.1 ≠ (r.2.1 b).2.1) ∧ Jvm.Cond.instantiable r.1 r.2.2 ∈ GT ∧ Jvm.Cond.initialized r.1 ∈ GT ∧ (∀ k, k < r.2.2 → (r.2.1 k).1 = r.1)
/-- the words of the JDK's steps and of arrays -/
def mx_okJ (GT : List Jvm.Cond) : Prop := Jvm.Cond.instanceMethod Lib.objectInit ∈ GT ∧ Jvm.Cond.code Lib.objectInit ⟨#[0xb1]⟩ 1 none ∈ GT ∧ Jvm.Cond.static Lib.Math.max.name ∈ GT ∧ Jvm.Cond.static Lib.Math.min.name ∈ GT ∧ Jvm.Cond.initialized "java/lang/Math" ∈ GT ∧ Jvm.Cond.code Lib.Math.max.name Lib.Math.max.code 2 (some .int) ∈ GT ∧ Jvm.Cond.code Lib.Math.min.name Lib.Math.min.code 2 (some .int) ∈ GT ∧ Jvm.Cond.native arraycopyName ∈ GT ∧ Jvm.Cond.static arraycopyName ∈ GT ∧ Jvm.Cond.initialized "java/lang/System" ∈ GT ∧ Jvm.Cond.arrayClass .int ∈ GT ∧ Jvm.Cond.arrayClass .boolean ∈ GT ∧ Jvm.Cond.arrayClass .long ∈ GT
/-- the words of a method's links -/
def mx_okL (cl : List vw_C) (GT NW : List Jvm.Cond) (MT : Nat → Option mx_M) (M : mx_M) : Prop :=
  (∀ q ∈ mx_lf M, ∃ r : vw_C, cl[q.2.1]? = some r ∧ q.2.2 < r.2.2 ∧ Jvm.Cond.fieldLink (mx_own M) q.1 (r.2.1 q.2.2).1 (r.2.1 q.2.2).2.1 (r.2.1 q.2.2).2.2.1 ∈ GT) ∧
  (∀ q ∈ mx_lc M, ∃ r : vw_C, cl[q.2]? = some r ∧ Jvm.Cond.classLink (mx_own M) q.1 r.1 ∈ GT) ∧
  (∀ q ∈ mx_lk M, Jvm.Cond.constant (mx_own M) q.1 q.2 ∈ GT) ∧ (∀ q ∈ mx_ll M, Jvm.Cond.constantLong (mx_own M) q.1 q.2 ∈ GT) ∧
  (∀ q ∈ mx_lm M, (q.2 = 0 ∧ Jvm.Cond.methodLink (mx_own M) q.1 Lib.objectInit ∈ GT) ∨ (q.2 = 1 ∧ Jvm.Cond.methodLink (mx_own M) q.1 Lib.Math.max.name ∈ GT) ∨ (q.2 = 2 ∧ Jvm.Cond.methodLink (mx_own M) q.1 Lib.Math.min.name ∈ GT) ∨ (q.2 = 3 ∧ Jvm.Cond.methodLink (mx_own M) q.1 arraycopyName ∈ GT) ∨
    (4 ≤ q.2 ∧ ∀ M', MT q.2 = some M' → Jvm.Cond.methodLink (mx_own M) q.1 (mx_y M') ∈ GT ∨ ∃ host, Jvm.Cond.methodLinkNest (mx_own M) q.1 (mx_y M') host ∈ NW))
/-- the words of a method itself -/
def mx_okY (cl : List vw_C) (GT : List Jvm.Cond) (M : mx_M) : Prop := plainName (mx_y M).cls = true ∧ mx_own M = (mx_y M).cls ∧ Jvm.Cond.code (mx_y M) (mx_cc M) (mx_ml M) (mx_ret M) ∈ GT ∧ Jvm.Cond.initialized (mx_y M).cls ∈ GT ∧ (mx_y M).cls ≠ "java/lang/invoke/MethodHandle" ∧ (mx_y M).cls ≠ "java/lang/invoke/VarHandle" ∧ (parseMethodDescriptor (mx_y M).desc).map (fun d => d.parameters.length) = some (mx_np M) ∧ mx_ml M ≤ 100 ∧
  (mx_kd M = 1 → Jvm.Cond.static (mx_y M) ∈ GT) ∧ (mx_kd M = 0 → Jvm.Cond.instanceMethod (mx_y M) ∈ GT ∧ Jvm.Cond.selects (mx_y M).cls (mx_y M) (mx_y M) ∈ GT ∧ ∃ rr, cl[mx_ci M]? = some rr ∧ rr.1 = (mx_y M).cls) ∧ (mx_kd M = 2 → Jvm.Cond.instanceMethod (mx_y M) ∈ GT ∧ (mx_y M).name = "<init>" ∧ mx_ret M = none ∧ ∃ rr, cl[mx_ci M]? = some rr ∧ rr.1 = (mx_y M).cls)
section MXS
variable {p : Program} {l : Launch} {e : Env} {R : Room} {s : State} {m : MethodId} {args : Array Value} {below : List Frame} {meth : Method} {c : Code} {Q : State → Prop}
variable {D : va_G} {cl : List vw_C} {cT : Nat → ClassId} {A : Nat → Prop} {nL n0 : Nat} {ad0 : Nat → Nat}
/-- from every heap that holds this state of the small machine, the machine comes to Q -/
def mx_G (p : Program) (l : Launch) (e : Env) (R : Room) (s : State) (m : MethodId) (args : Array Value) (below : List Frame) (meth : Method) (c : Code) (Q : State → Prop) (D : va_G) (cl : List vw_C) (cT : Nat → ClassId) (A : Nat → Prop) (nL n0 : Nat) (ad0 : Nat → Nat) (st : mx_S) : Prop :=
  ∀ (ad : Nat → Nat) (H : Heap) (locs : List Loc) (ls : Array Slot), (∀ k, k < n0 ∨ st.2.2.2.1.length ≤ k → ad k = ad0 k) → (st.2.2.2.2.1 = 0 → ad = ad0) → n0 ≤ st.2.2.2.1.length → va_P D cl (mx_w cT ad st.2.2.2.1) H → va_D A (mx_w cT ad st.2.2.2.1) → va_S A s.heap H locs → lv_has ls nL (mx_l ad st.2.1) →
    W p l e R s m args below meth c H locs st.2.2.2.2.1 st.2.2.2.2.2 Q (F0 m st.1 ls (st.2.2.1.map (mx_v ad)))
theorem mx_h1 {n0 a : Nat} {ad ad0 : Nat → Nat} {w : mx_W} {c : mx_C} (h : ∀ k, k < n0 ∨ w.length ≤ k → ad k = ad0 k) : ∀ k, k < n0 ∨ (w.set a c).length ≤ k → ad k = ad0 k := fun k hk => h k (hk.imp id (fun z => by rw [List.length_set] at z; exact z))
theorem mx_h1p {n0 q : Nat} {ad ad0 : Nat → Nat} {w : mx_W} {c : mx_C} (hl : w.length < 1000) (h3 : n0 ≤ w.length) (h : ∀ k, k < n0 ∨ w.length ≤ k → ad k = ad0 k) : ∀ k, k < n0 ∨ (w ++ [c]).length ≤ k → mx_ext ad w.length q k = ad0 k := by
  intro k hk
  rw [List.length_append] at hk
  rcases hk with hk | hk
  · rw [mx_ext_ag hl k (Or.inl (Nat.lt_of_lt_of_le hk h3))]
    exact h k (Or.inl hk)
  · have h9 : w.length + 1 ≤ k := hk
    unfold mx_ext
    rw [if_neg (by omega)]
    exact h k (Or.inr (by omega))
theorem mx_pure {pc pc' : Nat} {L : mx_L} {S S' : List Value} {k : mx_W × Nat × Nat} (h : ∀ (ad : Nat → Nat) (H : Heap) (locs : List Loc) (ls : Array Slot), lv_has ls nL (mx_l ad L) → W p l e R s m args below meth c H locs k.2.1 k.2.2 Q (F0 m pc' ls (S'.map (mx_v ad))) → W p l e R s m args below meth c H locs k.2.1 k.2.2 Q (F0 m pc ls (S.map (mx_v ad))))
    (kk : mx_G p l e R s m args below meth c Q D cl cT A nL n0 ad0 (pc', L, S', k)) : mx_G p l e R s m args below meth c Q D cl cT A nL n0 ad0 (pc, L, S, k) :=
  fun ad H locs ls h1 h2 h3 h4 h5 h6 h7 => h ad H locs ls h7 (kk ad H locs ls h1 h2 h3 h4 h5 h6 h7)
theorem mx_lvv {ls : Array Slot} {ad : Nat → Nat} {L : mx_L} {i : Nat} {v : Value} (hl : lv_has ls nL (mx_l ad L)) (h : mx_fd L i = some v) : ls[i]? = some (.val (mx_v ad v)) := hl.2.2 _ (mx_l_mem h)
theorem mx_ii_inv {f : Int32 → Int32 → Int32} {st st' : mx_S} (h : mx_ii f st = some st') : ∃ pc L y x r k, st = (pc, L, .int y :: .int x :: r, k) ∧ st' = (pc + 1, L, .int (f x y) :: r, k) := by
  unfold mx_ii at h
  split at h
  · cases h; exact ⟨_, _, _, _, _, _, rfl, rfl⟩
  · cases h
theorem mx_dv_inv {f : Int32 → Int32 → Int32} {st st' : mx_S} (h : mx_dv f st = some st') : ∃ pc L y x r k, st = (pc, L, .int y :: .int x :: r, k) ∧ st' = (pc + 1, L, .int (f x y) :: r, k) ∧ ¬ y = 0 := by
  unfold mx_dv at h
  split at h
  · split at h
    · cases h
    · cases h; exact ⟨_, _, _, _, _, _, rfl, rfl, by assumption⟩
  · cases h
theorem mx_i2_inv {f : Int64 → Int64 → Int64} {st st' : mx_S} (h : mx_i2 f st = some st') : ∃ pc L y x r k, st = (pc, L, .long y :: .long x :: r, k) ∧ st' = (pc + 1, L, .long (f x y) :: r, k) := by
  unfold mx_i2 at h
  split at h
  · cases h; exact ⟨_, _, _, _, _, _, rfl, rfl⟩
  · cases h
theorem mx_ls_inv {f : Int64 → Int32 → Int64} {st st' : mx_S} (h : mx_ls f st = some st') : ∃ pc L y x r k, st = (pc, L, .int y :: .long x :: r, k) ∧ st' = (pc + 1, L, .long (f x y) :: r, k) := by
  unfold mx_ls at h
  split at h
  · cases h; exact ⟨_, _, _, _, _, _, rfl, rfl⟩
  · cases h
theorem mx_goto_inv {off : Int} {st st' : mx_S} (h : mx_goto off st = some st') : 0 ≤ (st.1 : Int) + off ∧ st' = (mx_to st.1 off, st.2) := by
  unfold mx_goto at h
  cases hd : decide (0 ≤ (st.1 : Int) + off) with
  | false => rw [hd] at h; cases h
  | true => rw [hd] at h; cases h; exact ⟨of_decide_eq_true hd, rfl⟩
theorem mx_to_eq {pc : Nat} {off : Int} (h : 0 ≤ (pc : Int) + off) : (pc : Int) + off = (mx_to pc off : Int) := by
  unfold mx_to
  omega
theorem mx_bif {α : Type} {b : Bool} {x : Option α} {y : α} (h : (bif b then x else none) = some y) : b = true ∧ x = some y := by
  cases b with
  | false => cases h
  | true => exact ⟨rfl, h⟩
theorem mx_fit_ok {ty : FieldType} {v : Value} (ad : Nat → Nat) (h : mx_fit ty v = true) : narrow ty (mx_v ad v) = mx_v ad v ∧ fits ty (mx_v ad v) = true := by
  unfold mx_fit at h
  split at h
  · exact ⟨rfl, rfl⟩
  · rcases Bool.or_eq_true_iff.mp h with h | h
    · rw [beq_iff_eq] at h; subst h; exact ⟨rfl, rfl⟩
    · rw [beq_iff_eq] at h; subst h; exact ⟨rfl, rfl⟩
  · exact ⟨rfl, rfl⟩
  · exact ⟨rfl, rfl⟩
  · cases h
end MXS
end
section
/-! one step of the small machine is the machine's -/
section MXT
variable {p : Program} {l : Launch} {e : Env} {R : Room} {s : State} {m : MethodId} {args : Array Value} {below : List Frame} {meth : Method} {c : Code} {Q : State → Prop}
variable {D : va_G} {cl : List vw_C} {cT : Nat → ClassId} {A : Nat → Prop} {nL n0 : Nat} {ad0 : Nat → Nat} {ty : Nat → Nat → FieldType} {GT NW : List Jvm.Cond} {MT : Nat → Option mx_M} {M : mx_M}
/-- what holds of the method's own start -/
abbrev mx_F (p : Program) (R : Room) (s : State) (m : MethodId) (args : Array Value) (meth : Method) (c : Code) (D : va_G) (cl : List vw_C) (cT : Nat → ClassId) (A : Nat → Prop) (ty : Nat → Nat → FieldType) (GT NW : List Jvm.Cond) (MT : Nat → Option mx_M) (M : mx_M) : Prop :=
  p.tables.exec = Jvm.exec ∧ c.code = mx_cc M ∧ c.maxLocals = mx_ml M ∧ s.vm.findClass (mx_own M) = some m.cls ∧ (∀ w ∈ GT, w.before args s = true) ∧ (mx_kd M = 2 → meth.name = (mx_y M).name) ∧ va_K D cl (mx_tys cT) s ∧ (∀ q, s.heap.size ≤ q → A q) ∧ (∀ ci r, cl[ci]? = some r → mx_okC GT ty ci r) ∧ mx_okJ GT ∧ mx_okL cl GT NW MT M ∧ (0 < mx_rk M → 1 ≤ R.frames ∧ 128 ≤ R.locals) ∧ (mx_kd M = 2 → (mx_y M).name = "<init>" ∧ ∃ rr, cl[mx_ci M]? = some rr ∧ rr.1 = mx_own M)
theorem mx_sti_ok (F : mx_F p R s m args meth c D cl cT A ty GT NW MT M) {n i : Nat} {st st' : mx_S} (h : mx_sti n i (mx_ml M) st = some st')
    (row : ∀ (x : Int32) (r : List Value) (H : Heap) (locs : List Loc) (cells slots : Nat) (ls : Array Slot) (lv lv' : List (Nat × Value)), lv_has ls (mx_ml M) lv → i < mx_ml M → (i, Value.int x) :: lv.filter (fun q => !(q.1 == i) && !(q.1 + 1 == i && q.2.category == 2)) = lv' → (∀ ls' : Array Slot, lv_has ls' (mx_ml M) lv' → W p l e R s m args below meth c H locs cells slots Q (F0 m (st.1 + n) ls' r)) → W p l e R s m args below meth c H locs cells slots Q (F0 m st.1 ls (.int x :: r)))
    (kk : mx_G p l e R s m args below meth c Q D cl cT A (mx_ml M) n0 ad0 st') : mx_G p l e R s m args below meth c Q D cl cT A (mx_ml M) n0 ad0 st := by
  unfold mx_sti at h
  split at h
  · obtain ⟨hi, h⟩ := mx_bif h
    cases h
    intro ad H locs ls h1 h2 h3 h4 h5 h6 h7
    exact row _ _ H locs _ _ ls _ _ h7 (Nat.le_of_ble_eq_true hi) rfl (fun ls' hl => kk ad H locs ls' h1 h2 h3 h4 h5 h6 (mx_st1_has (v := .int _) hl))
  · cases h
theorem mx_ldi_ok {n i : Nat} {st st' : mx_S} (h : mx_ldi n i st = some st')
    (row : ∀ (x : Int32) (r : List Value) (H : Heap) (locs : List Loc) (cells slots : Nat) (ls : Array Slot), ls[i]? = some (.val (.int x)) → W p l e R s m args below meth c H locs cells slots Q (F0 m (st.1 + n) ls (.int x :: r)) → W p l e R s m args below meth c H locs cells slots Q (F0 m st.1 ls r))
    (kk : mx_G p l e R s m args below meth c Q D cl cT A nL n0 ad0 st') : mx_G p l e R s m args below meth c Q D cl cT A nL n0 ad0 st := by
  unfold mx_ldi at h
  split at h
  · next x hq =>
    cases h
    intro ad H locs ls h1 h2 h3 h4 h5 h6 h7
    exact row x _ H locs _ _ ls (mx_lvv h7 hq) (kk ad H locs ls h1 h2 h3 h4 h5 h6 h7)
  · cases h
theorem mx_ldl_ok {n i : Nat} {st st' : mx_S} (h : mx_ldl n i st = some st')
    (row : ∀ (x : Int64) (r : List Value) (H : Heap) (locs : List Loc) (cells slots : Nat) (ls : Array Slot), ls[i]? = some (.val (.long x)) → W p l e R s m args below meth c H locs cells slots Q (F0 m (st.1 + n) ls (.long x :: r)) → W p l e R s m args below meth c H locs cells slots Q (F0 m st.1 ls r))
    (kk : mx_G p l e R s m args below meth c Q D cl cT A nL n0 ad0 st') : mx_G p l e R s m args below meth c Q D cl cT A nL n0 ad0 st := by
  unfold mx_ldl at h
  split at h
  · next x hq =>
    cases h
    intro ad H locs ls h1 h2 h3 h4 h5 h6 h7
    exact row x _ H locs _ _ ls (mx_lvv h7 hq) (kk ad H locs ls h1 h2 h3 h4 h5 h6 h7)
  · cases h
theorem mx_lda_ok {n i : Nat} {st st' : mx_S} (h : mx_lda n i st = some st')
    (row : ∀ (x : Nat) (r : List Value) (H : Heap) (locs : List Loc) (cells slots : Nat) (ls : Array Slot), ls[i]? = some (.val (.ref x)) → W p l e R s m args below meth c H locs cells slots Q (F0 m (st.1 + n) ls (.ref x :: r)) → W p l e R s m args below meth c H locs cells slots Q (F0 m st.1 ls r))
    (kk : mx_G p l e R s m args below meth c Q D cl cT A nL n0 ad0 st') : mx_G p l e R s m args below meth c Q D cl cT A nL n0 ad0 st := by
  unfold mx_lda at h
  split at h
  · next x hq =>
    cases h
    intro ad H locs ls h1 h2 h3 h4 h5 h6 h7
    exact row (ad x) _ H locs _ _ ls (mx_lvv h7 hq) (kk ad H locs ls h1 h2 h3 h4 h5 h6 h7)
  · cases h
theorem mx_inc_ok (F : mx_F p R s m args meth c D cl cT A ty GT NW MT M) {i : Nat} {n : Int} {st st' : mx_S} (hd : decode (mx_cc M) st.1 = .ok (.iinc i n, 3)) (h : mx_inc i (mx_ml M) n st = some st')
    (kk : mx_G p l e R s m args below meth c Q D cl cT A (mx_ml M) n0 ad0 st') : mx_G p l e R s m args below meth c Q D cl cT A (mx_ml M) n0 ad0 st := by
  unfold mx_inc at h
  split at h
  · next x hq =>
    obtain ⟨hi, h⟩ := mx_bif h
    cases h
    intro ad H locs ls h1 h2 h3 h4 h5 h6 h7
    obtain ⟨k, hk⟩ := List.getElem?_of_mem (mx_l_mem (ad := ad) hq)
    exact lv_iinc F.1 F.2.1 hd h7 hk (by rw [mx_k_eq]) (Nat.le_of_ble_eq_true hi) rfl (fun ls' hl => kk ad H locs ls' h1 h2 h3 h4 h5 h6 (mx_st1_has (v := .int _) hl))
  · cases h
theorem mx_goto_ok (F : mx_F p R s m args meth c D cl cT A ty GT NW MT M) {off : Int} {st st' : mx_S} (hd : decode (mx_cc M) st.1 = .ok (.goto off, 3)) (h : mx_goto off st = some st')
    (kk : mx_G p l e R s m args below meth c Q D cl cT A nL n0 ad0 st') : mx_G p l e R s m args below meth c Q D cl cT A nL n0 ad0 st := by
  obtain ⟨h0, rfl⟩ := mx_goto_inv h
  intro ad H locs ls h1 h2 h3 h4 h5 h6 h7
  exact lv_goto F.1 F.2.1 hd (mx_to_eq h0) (kk ad H locs ls h1 h2 h3 h4 h5 h6 h7)
theorem mx_dec {q : Prop} [Decidable q] {X : Nat → Prop} {a b : Nat} (h : X (cond (decide q) a b)) : (q → X a) ∧ (¬ q → X b) := by
  by_cases hq : q
  · rw [decide_eq_true hq] at h; exact ⟨fun _ => h, fun k => absurd hq k⟩
  · rw [decide_eq_false hq] at h; exact ⟨fun k => absurd k hq, fun _ => h⟩
theorem mx_if_ok (F : mx_F p R s m args meth c D cl cT A ty GT NW MT M) {cd : Jvm.ClassFile.Cond} {off : Int} {st st' : mx_S} (hd : decode (mx_cc M) st.1 = .ok (.ifCond cd off, 3)) (h : mx_if cd off st = some st')
    (kk : mx_G p l e R s m args below meth c Q D cl cT A nL n0 ad0 st') : mx_G p l e R s m args below meth c Q D cl cT A nL n0 ad0 st := by
  unfold mx_if at h
  split at h
  · obtain ⟨h0, h⟩ := mx_bif h
    have ht := mx_to_eq (of_decide_eq_true h0)
    cases h
    intro ad H locs ls h1 h2 h3 h4 h5 h6 h7
    have k0 := kk ad H locs ls h1 h2 h3 h4 h5 h6 h7
    cases cd with
    | eq => obtain ⟨kt, kf⟩ := mx_dec (X := fun z => W p l e R s m args below meth c H locs _ _ Q (F0 m z ls _)) k0; exact lv_if_eq F.1 F.2.1 hd ht kt kf
    | ne => obtain ⟨kt, kf⟩ := mx_dec (X := fun z => W p l e R s m args below meth c H locs _ _ Q (F0 m z ls _)) k0; exact lv_if_ne F.1 F.2.1 hd ht kt (fun z => kf (fun y => y z))
    | lt => obtain ⟨kt, kf⟩ := mx_dec (X := fun z => W p l e R s m args below meth c H locs _ _ Q (F0 m z ls _)) k0; exact lv_if_lt F.1 F.2.1 hd ht kt kf
    | ge => obtain ⟨kt, kf⟩ := mx_dec (X := fun z => W p l e R s m args below meth c H locs _ _ Q (F0 m z ls _)) k0; exact lv_if_ge F.1 F.2.1 hd ht kt kf
    | gt => obtain ⟨kt, kf⟩ := mx_dec (X := fun z => W p l e R s m args below meth c H locs _ _ Q (F0 m z ls _)) k0; exact lv_if_gt F.1 F.2.1 hd ht kt kf
    | le => obtain ⟨kt, kf⟩ := mx_dec (X := fun z => W p l e R s m args below meth c H locs _ _ Q (F0 m z ls _)) k0; exact lv_if_le F.1 F.2.1 hd ht kt kf
  · cases h
theorem mx_cmp_ok (F : mx_F p R s m args meth c D cl cT A ty GT NW MT M) {cd : Jvm.ClassFile.Cond} {off : Int} {st st' : mx_S} (hd : decode (mx_cc M) st.1 = .ok (.if_icmp cd off, 3)) (h : mx_cmp cd off st = some st')
    (kk : mx_G p l e R s m args below meth c Q D cl cT A nL n0 ad0 st') : mx_G p l e R s m args below meth c Q D cl cT A nL n0 ad0 st := by
  unfold mx_cmp at h
  split at h
  · obtain ⟨h0, h⟩ := mx_bif h
    have ht := mx_to_eq (of_decide_eq_true h0)
    cases h
    intro ad H locs ls h1 h2 h3 h4 h5 h6 h7
    have k0 := kk ad H locs ls h1 h2 h3 h4 h5 h6 h7
    cases cd with
    | eq => obtain ⟨kt, kf⟩ := mx_dec (X := fun z => W p l e R s m args below meth c H locs _ _ Q (F0 m z ls _)) k0; exact lv_icmp_eq F.1 F.2.1 hd ht kt kf
    | ne => obtain ⟨kt, kf⟩ := mx_dec (X := fun z => W p l e R s m args below meth c H locs _ _ Q (F0 m z ls _)) k0; exact lv_icmp_ne F.1 F.2.1 hd ht kt (fun z => kf (fun y => y z))
    | lt => obtain ⟨kt, kf⟩ := mx_dec (X := fun z => W p l e R s m args below meth c H locs _ _ Q (F0 m z ls _)) k0; exact lv_icmp_lt F.1 F.2.1 hd ht kt kf
    | ge => obtain ⟨kt, kf⟩ := mx_dec (X := fun z => W p l e R s m args below meth c H locs _ _ Q (F0 m z ls _)) k0; exact lv_icmp_ge F.1 F.2.1 hd ht kt kf
    | gt => obtain ⟨kt, kf⟩ := mx_dec (X := fun z => W p l e R s m args below meth c H locs _ _ Q (F0 m z ls _)) k0; exact lv_icmp_gt F.1 F.2.1 hd ht kt kf
    | le => obtain ⟨kt, kf⟩ := mx_dec (X := fun z => W p l e R s m args below meth c H locs _ _ Q (F0 m z ls _)) k0; exact lv_icmp_le F.1 F.2.1 hd ht kt kf
  · cases h
theorem mx_tab_ok (F : mx_F p R s m args meth c D cl cT A ty GT NW MT M) {d lo hi : Int} {offs : Array Int} {len : Nat} {st st' : mx_S} (hd : decode (mx_cc M) st.1 = .ok (.tableswitch d lo hi offs, len)) (h : mx_tab d lo hi offs st = some st')
    (kk : mx_G p l e R s m args below meth c Q D cl cT A nL n0 ad0 st') : mx_G p l e R s m args below meth c Q D cl cT A nL n0 ad0 st := by
  unfold mx_tab at h
  split at h
  · split at h
    · next hc =>
      obtain ⟨h0, rfl⟩ := mx_goto_inv h
      intro ad H locs ls h1 h2 h3 h4 h5 h6 h7
      exact lv_tableOut F.1 F.2.1 hd hc (mx_to_eq h0) (kk ad H locs ls h1 h2 h3 h4 h5 h6 h7)
    · next hc =>
      split at h
      · next off ho =>
        obtain ⟨h0, rfl⟩ := mx_goto_inv h
        intro ad H locs ls h1 h2 h3 h4 h5 h6 h7
        exact lv_tableIn F.1 F.2.1 hd (fun z => hc (Or.inl z)) (fun z => hc (Or.inr z)) ho (mx_to_eq h0) (kk ad H locs ls h1 h2 h3 h4 h5 h6 h7)
      · cases h
  · cases h
theorem mx_getf_ok (F : mx_F p R s m args meth c D cl cT A ty GT NW MT M) {x : Nat} {st st' : mx_S} (hd : decode (mx_cc M) st.1 = .ok (.getfield x, 3)) (h : mx_getf (mx_fd (mx_lf M) x) st = some st')
    (kk : mx_G p l e R s m args below meth c Q D cl cT A nL n0 ad0 st') : mx_G p l e R s m args below meth c Q D cl cT A nL n0 ad0 st := by
  obtain ⟨hx, hb, hml, hown, hts, hnm, hK, hA, hC, hJ, hL, hR, hY⟩ := F
  unfold mx_getf at h
  split at h
  · next ci k pc L a r w n hq =>
    split at h
    · next cj fs hw =>
      split at h
      · next v hv =>
        have hci : cj = ci := by
          cases hcc : (cj == ci) with
          | false => rw [hcc] at h; cases h
          | true => simpa using hcc
        subst hci
        rw [show (cj == cj) = true from beq_self_eq_true cj] at h
        cases h
        obtain ⟨rr, e1, e2, e3⟩ := hL.1 _ (mx_fd_mem hq)
        intro ad H locs ls h1 h2 h3 h4 h5 h6 h7
        refine va_get (Ts := GT) hx hb hts (hC _ _ e1).1 hown hK h4 a (fs := fs.map (mx_v ad)) (mx_w_at hw) e1 k e2 (hts _ e3) (fun _ h9 => h9) (v := mx_v ad v) ?_ hd (kk ad H locs ls h1 h2 h3 h4 h5 h6 h7)
        rw [List.getElem?_map, hv]
        rfl
      · cases h
    · cases h
  · cases h
theorem mx_putf_ok (F : mx_F p R s m args meth c D cl cT A ty GT NW MT M) {x : Nat} {st st' : mx_S} (hd : decode (mx_cc M) st.1 = .ok (.putfield x, 3)) (h : mx_putf cl ty M (mx_fd (mx_lf M) x) st = some st')
    (kk : mx_G p l e R s m args below meth c Q D cl cT A nL n0 ad0 st') : mx_G p l e R s m args below meth c Q D cl cT A nL n0 ad0 st := by
  obtain ⟨hx, hb, hml, hown, hts, hnm, hK, hA, hC, hJ, hL, hR, hY⟩ := F
  unfold mx_putf at h
  split at h
  · next ci k pc L v a r w n hq =>
    split at h
    · next cj fs hw =>
      obtain ⟨hci, h⟩ := mx_bif h
      simp only [Bool.and_eq_true, beq_iff_eq] at hci
      obtain ⟨⟨hci, hkl⟩, hft⟩ := hci
      subst hci
      have hkl : k < fs.length := Nat.le_of_ble_eq_true hkl
      split at h
      · next rr hrr =>
        obtain ⟨hfin, h⟩ := mx_bif h
        cases h
        obtain ⟨rr', e1, e2, e3⟩ := hL.1 _ (mx_fd_mem hq)
        have : rr' = rr := Option.some.inj (e1.symm.trans hrr)
        subst this
        obtain ⟨c1, c2, c3, c4, c5, c6⟩ := hC _ _ e1
        intro ad H locs ls h1 h2 h3 h4 h5 h6 h7
        obtain ⟨f1, f2⟩ := mx_fit_ok ad hft
        have hset : (mx_w cT ad w).set a (ad a, .inr (cj, (fs.map (mx_v ad)).set k (mx_v ad v))) = mx_w cT ad (w.set a (.inr (cj, fs.set k v))) := by
          rw [← mx_w_set]
          show _ = (mx_w cT ad w).set a (ad a, .inr (cj, (fs.set k v).map (mx_v ad)))
          rw [List.map_set]
        cases hf : (rr'.2.1 k).2.2.2 with
        | false =>
          refine va_put (Ts := GT) hx hb hts c1 (ty cj) c2 c3 hown hK h4 h5 h6 a (fs := fs.map (mx_v ad)) (mx_w_at hw) e1 k e2 (hts _ e3) (fun _ h9 => h9) hf (c2 k e2) f1 f2 (by rw [List.length_map]; exact hkl) hd (fun H1 locs1 g1 g2 g3 => ?_)
          rw [hset] at g1 g2
          exact kk ad H1 locs1 ls (mx_h1 h1) h2 (by rw [List.length_set]; exact h3) g1 g2 g3 h7
        | true =>
          rw [hf] at hfin
          simp only [Bool.not_true, Bool.false_or, Bool.and_eq_true, beq_iff_eq] at hfin
          obtain ⟨k1, k2⟩ := hfin
          obtain ⟨z2, r3, z4, z5⟩ := hY k1
          have hrr3 : r3 = rr' := by rw [← k2] at z4; exact Option.some.inj (z4.symm.trans e1)
          subst hrr3
          have hdec : (r3.2.1 k).1 = mx_own M := (c6 k e2).trans z5
          refine va_putF (Ts := GT) hx hb hts c1 (ty cj) c2 c3 hown hK h4 h5 h6 a (fs := fs.map (mx_v ad)) (mx_w_at hw) e1 k e2 (hts _ e3) (fun _ h9 => h9) hf ((hnm k1).trans z2) hdec (c2 k e2) f1 f2 (by rw [List.length_map]; exact hkl) hd (fun H1 locs1 g1 g2 g3 => ?_)
          rw [hset] at g1 g2
          exact kk ad H1 locs1 ls (mx_h1 h1) h2 (by rw [List.length_set]; exact h3) g1 g2 g3 h7
      · cases h
    · cases h
  · cases h
end MXT
end
section
/-! arrays, makings, the JDK's steps, and all of them -/
section MXU
variable {p : Program} {l : Launch} {e : Env} {R : Room} {s : State} {m : MethodId} {args : Array Value} {below : List Frame} {meth : Method} {c : Code} {Q : State → Prop}
variable {D : va_G} {cl : List vw_C} {cT : Nat → ClassId} {A : Nat → Prop} {nL n0 : Nat} {ad0 : Nat → Nat} {ty : Nat → Nat → FieldType} {GT NW : List Jvm.Cond} {MT : Nat → Option mx_M} {M : mx_M}
theorem mx_alen_ok (F : mx_F p R s m args meth c D cl cT A ty GT NW MT M) {st st' : mx_S} (hd : decode (mx_cc M) st.1 = .ok (.arraylength, 1)) (h : mx_alen st = some st')
    (kk : mx_G p l e R s m args below meth c Q D cl cT A nL n0 ad0 st') : mx_G p l e R s m args below meth c Q D cl cT A nL n0 ad0 st := by
  obtain ⟨hx, hb, hml, hown, hts, hnm, hK, hA, hC, hJ, hL, hR, hY⟩ := F
  unfold mx_alen at h
  split at h
  · next pc L a r w n =>
    split at h
    · next t x hw =>
      cases htt : Nat.blt t 3 with
      | false => rw [htt] at h; cases h
      | true =>
        rw [htt] at h
        cases h
        have ht : t < 3 := Nat.le_of_ble_eq_true htt
        have : ∃ ty0, (mx_tys cT)[t]? = some (cT t, ty0) := by
          rcases (show t = 0 ∨ t = 1 ∨ t = 2 by omega) with rfl | rfl | rfl
          · exact ⟨_, rfl⟩
          · exact ⟨_, rfl⟩
          · exact ⟨_, rfl⟩
        obtain ⟨ty0, hty⟩ := this
        intro ad H locs ls h1 h2 h3 h4 h5 h6 h7
        exact va_alen hx hb hK h4 a t (mx_w_at hw) hty rfl hd (kk ad H locs ls h1 h2 h3 h4 h5 h6 h7)
    · cases h
  · cases h
theorem mx_ald_inv {t : Nat} {st st' : mx_S} (h : mx_ald t st = some st') : ∃ pc L i a r w n N f, st = (pc, L, .int i :: .ref a :: r, w, n) ∧ w[a]? = some (.inl (t, N, .inl f)) ∧ vp_in i N ∧ st' = (pc + 1, L, .int (f i.toNatClampNeg) :: r, w, n) := by
  unfold mx_ald at h
  split at h
  · next pc L i a r w n =>
    split at h
    · next t' N f hw =>
      split at h
      · next hc =>
        cases h
        obtain ⟨rfl, hc⟩ := hc
        exact ⟨_, _, _, _, _, _, _, _, _, rfl, hw, hc, rfl⟩
      · cases h
    · cases h
  · cases h
theorem mx_ast_inv {t : Nat} {g : Int32 → Int32} {st st' : mx_S} (h : mx_ast t g st = some st') : ∃ pc L x i a r w n N f, st = (pc, L, .int x :: .int i :: .ref a :: r, w, n) ∧ w[a]? = some (.inl (t, N, .inl f)) ∧ vp_in i N ∧ st' = (pc + 1, L, r, w.set a (.inl (t, N, .inl (upd f i.toNatClampNeg (g x)))), n) := by
  unfold mx_ast at h
  split at h
  · next pc L x i a r w n =>
    split at h
    · next t' N f hw =>
      split at h
      · next hc =>
        cases h
        obtain ⟨rfl, hc⟩ := hc
        exact ⟨_, _, _, _, _, _, _, _, _, _, rfl, hw, hc, rfl⟩
      · cases h
    · cases h
  · cases h
theorem mx_iald_ok (F : mx_F p R s m args meth c D cl cT A ty GT NW MT M) {st st' : mx_S} (hd : decode (mx_cc M) st.1 = .ok (.iaload, 1)) (h : mx_ald 0 st = some st')
    (kk : mx_G p l e R s m args below meth c Q D cl cT A nL n0 ad0 st') : mx_G p l e R s m args below meth c Q D cl cT A nL n0 ad0 st := by
  obtain ⟨hx, hb, hml, hown, hts, hnm, hK, hA, hC, hJ, hL, hR, hY⟩ := F
  obtain ⟨pc, L, i, a, r, w, n, N, f, rfl, hw, hi, rfl⟩ := mx_ald_inv h
  intro ad H locs ls h1 h2 h3 h4 h5 h6 h7
  exact va_iald hx hb hK h4 a 0 (mx_w_at hw) rfl hi hd (kk ad H locs ls h1 h2 h3 h4 h5 h6 h7)
theorem mx_zald_ok (F : mx_F p R s m args meth c D cl cT A ty GT NW MT M) {st st' : mx_S} (hd : decode (mx_cc M) st.1 = .ok (.baload, 1)) (h : mx_ald 1 st = some st')
    (kk : mx_G p l e R s m args below meth c Q D cl cT A nL n0 ad0 st') : mx_G p l e R s m args below meth c Q D cl cT A nL n0 ad0 st := by
  obtain ⟨hx, hb, hml, hown, hts, hnm, hK, hA, hC, hJ, hL, hR, hY⟩ := F
  obtain ⟨pc, L, i, a, r, w, n, N, f, rfl, hw, hi, rfl⟩ := mx_ald_inv h
  intro ad H locs ls h1 h2 h3 h4 h5 h6 h7
  exact va_zald hx hb hK h4 a 1 (mx_w_at hw) rfl hi hd (kk ad H locs ls h1 h2 h3 h4 h5 h6 h7)
theorem mx_iast_ok (F : mx_F p R s m args meth c D cl cT A ty GT NW MT M) {st st' : mx_S} (hd : decode (mx_cc M) st.1 = .ok (.iastore, 1)) (h : mx_ast 0 (fun x => x) st = some st')
    (kk : mx_G p l e R s m args below meth c Q D cl cT A nL n0 ad0 st') : mx_G p l e R s m args below meth c Q D cl cT A nL n0 ad0 st := by
  obtain ⟨hx, hb, hml, hown, hts, hnm, hK, hA, hC, hJ, hL, hR, hY⟩ := F
  obtain ⟨pc, L, x, i, a, r, w, n, N, f, rfl, hw, hi, rfl⟩ := mx_ast_inv h
  intro ad H locs ls h1 h2 h3 h4 h5 h6 h7
  refine va_iast hx hb hK h4 h5 h6 a 0 (mx_w_at hw) rfl hi hd (fun H1 locs1 g1 g2 g3 => ?_)
  have hset : (mx_w cT ad w).set a (ad a, .inl (cT 0, N, .inl (upd f i.toNatClampNeg x))) = mx_w cT ad (w.set a (.inl (0, N, .inl (upd f i.toNatClampNeg x)))) := mx_w_set (c := .inl (0, N, .inl (upd f i.toNatClampNeg x)))
  have g1 : va_P D cl (mx_w cT ad (w.set a (.inl (0, N, .inl (upd f i.toNatClampNeg x))))) H1 := by rw [← hset]; exact g1
  have g2 : va_D A (mx_w cT ad (w.set a (.inl (0, N, .inl (upd f i.toNatClampNeg x))))) := by rw [← hset]; exact g2
  exact kk ad H1 locs1 ls (mx_h1 h1) h2 (by rw [List.length_set]; exact h3) g1 g2 g3 h7
theorem mx_zast_ok (F : mx_F p R s m args meth c D cl cT A ty GT NW MT M) {st st' : mx_S} (hd : decode (mx_cc M) st.1 = .ok (.bastore, 1)) (h : mx_ast 1 (vp_nar .boolean) st = some st')
    (kk : mx_G p l e R s m args below meth c Q D cl cT A nL n0 ad0 st') : mx_G p l e R s m args below meth c Q D cl cT A nL n0 ad0 st := by
  obtain ⟨hx, hb, hml, hown, hts, hnm, hK, hA, hC, hJ, hL, hR, hY⟩ := F
  obtain ⟨pc, L, x, i, a, r, w, n, N, f, rfl, hw, hi, rfl⟩ := mx_ast_inv h
  intro ad H locs ls h1 h2 h3 h4 h5 h6 h7
  refine va_zast hx hb hK h4 h5 h6 a 1 (mx_w_at hw) rfl hi hd (fun H1 locs1 g1 g2 g3 => ?_)
  have hset : (mx_w cT ad w).set a (ad a, .inl (cT 1, N, .inl (upd f i.toNatClampNeg (vp_nar .boolean x)))) = mx_w cT ad (w.set a (.inl (1, N, .inl (upd f i.toNatClampNeg (vp_nar .boolean x))))) := mx_w_set (c := .inl (1, N, .inl (upd f i.toNatClampNeg (vp_nar .boolean x))))
  have g1 : va_P D cl (mx_w cT ad (w.set a (.inl (1, N, .inl (upd f i.toNatClampNeg (vp_nar .boolean x)))))) H1 := by rw [← hset]; exact g1
  have g2 : va_D A (mx_w cT ad (w.set a (.inl (1, N, .inl (upd f i.toNatClampNeg (vp_nar .boolean x)))))) := by rw [← hset]; exact g2
  exact kk ad H1 locs1 ls (mx_h1 h1) h2 (by rw [List.length_set]; exact h3) g1 g2 g3 h7
theorem mx_all_inv {st : mx_S} (h : mx_all st = true) : st.2.2.2.1.length < 1000 ∧ mx_okl st.2.2.2.1.length st.2.1 = true ∧ st.2.2.1.all (mx_okv st.2.2.2.1.length) = true ∧ st.2.2.2.1.all (mx_okc st.2.2.2.1.length) = true := by
  unfold mx_all at h
  obtain ⟨h1, h2⟩ := Bool.and_eq_true_iff.mp h
  obtain ⟨h1, h3⟩ := Bool.and_eq_true_iff.mp h1
  obtain ⟨h0, h1⟩ := Bool.and_eq_true_iff.mp h1
  exact ⟨Nat.le_of_ble_eq_true h0, h1, h3, h2⟩
theorem mx_dflt {n : Nat} {t : FieldType} : mx_okv n (defaultValue t) = true := by cases t <;> rfl
theorem mx_dflt_v {ad : Nat → Nat} {t : FieldType} : mx_v ad (defaultValue t) = defaultValue t := by cases t <;> rfl
theorem mx_newc_ok (F : mx_F p R s m args meth c D cl cT A ty GT NW MT M) {x : Nat} {st st' : mx_S} (hd : decode (mx_cc M) st.1 = .ok (.new x, 3)) (h : mx_newc cl ty (mx_fd (mx_lc M) x) st = some st') (hkc : st'.2.2.2.2.1 ≤ R.cells) (hks : st'.2.2.2.2.2 ≤ R.slots)
    (kk : mx_G p l e R s m args below meth c Q D cl cT A nL n0 ad0 st') : mx_G p l e R s m args below meth c Q D cl cT A nL n0 ad0 st := by
  obtain ⟨hx, hb, hml, hown, hts, hnm, hK, hA, hC, hJ, hL, hR, hY⟩ := F
  unfold mx_newc at h
  split at h
  · next ci hq =>
    split at h
    · next rr hrr =>
      cases hal : mx_all st with
      | false => rw [hal] at h; cases h
      | true =>
        rw [hal] at h
        cases h
        obtain ⟨a0, a1, a2, a3⟩ := mx_all_inv hal
        obtain ⟨rr', e1, e2⟩ := hL.2.1 _ (mx_fd_mem hq)
        have : rr' = rr := Option.some.inj (e1.symm.trans hrr)
        subst this
        obtain ⟨c1, c2, c3, c4, c5, c6⟩ := hC _ _ e1
        intro ad H locs ls h1 h2 h3 h4 h5 h6 h7
        refine va_new (Ts := GT) hx hb hts c1 (ty ci) c2 hown (hts _ e2) (hts _ c4) (hts _ c5) hK h4 h5 h6 hA e1 (fs := ((List.range rr'.2.2).map (fun j => defaultValue (ty ci j)))) ?_ hkc hks hd (fun q H1 g1 g2 g3 => ?_)
        · intro j hj
          simp [vp_V, hj]
        · have hcc : mx_c cT ad (.inr (ci, (List.range rr'.2.2).map (fun j => defaultValue (ty ci j)))) = .inr (ci, (List.range rr'.2.2).map (fun j => defaultValue (ty ci j))) := by
            show Sum.inr (ci, List.map (mx_v ad) ((List.range rr'.2.2).map (fun j => defaultValue (ty ci j)))) = _
            rw [List.map_map]
            congr 2
            apply List.map_congr_left
            intro j _
            exact mx_dflt_v
          have hok : mx_okc st.2.2.2.1.length (.inr (ci, (List.range rr'.2.2).map (fun j => defaultValue (ty ci j)))) = true := by
            show List.all _ _ = true
            rw [List.all_eq_true]
            intro v hv
            obtain ⟨j, -, rfl⟩ := List.mem_map.mp hv
            exact mx_dflt
          rw [← hcc, mx_w_push a0 a3 hok] at g1 g2
          have k0 := kk (mx_ext ad st.2.2.2.1.length q) H1 locs ls (mx_h1p a0 h3 h1) (fun z => absurd z (Nat.succ_ne_zero _)) (by rw [List.length_append]; exact Nat.le_trans h3 (Nat.le_add_right _ _)) g1 g2 g3 (by rw [mx_l_ag a1 (mx_ext_ag a0)]; exact h7)
          have e3 : List.map (mx_v (mx_ext ad st.2.2.2.1.length q)) (Value.ref st.2.2.2.1.length :: st.2.2.1) = .ref q :: st.2.2.1.map (mx_v ad) := by
            rw [List.map_cons, mx_vs_ag a2 (mx_ext_ag a0)]
            show Value.ref (mx_ext ad st.2.2.2.1.length q st.2.2.2.1.length) :: _ = _
            simp [mx_ext]
          rw [e3] at k0
          exact k0
    · cases h
  · cases h
theorem mx_newa_ok1 (F : mx_F p R s m args meth c D cl cT A ty GT NW MT M) {at0 : ArrayType} {pc : Nat} {L : mx_L} {n : Int32} {r : List Value} {w : mx_W} {kc ks t : Nat} {ty0 : FieldType} {a0 : vp_A} (hd : decode (mx_cc M) pc = .ok (.newarray at0, 2)) (hty : newarray.typeOf at0 = ty0) (ht : (mx_tys cT)[t]? = some (cT t, ty0)) (hga : Jvm.Cond.arrayClass ty0 ∈ GT) (hRA : va_RA s (cT t) ty0 = (s.vm.findClass ("[" ++ ty0.toString) = some (cT t)))
    (hal : mx_all (pc, L, .int n :: r, w, kc, ks) = true) (hn : ¬ n < 0) (hby : n.toNatClampNeg * componentBytes ty0 ≤ 536870912) (ha : ∀ cA : ClassId, vp_cell cA a0 = arrV cA n.toNatClampNeg (fun _ => defaultValue ty0)) (hkc : kc + 1 ≤ R.cells) (hks : ks + n.toNatClampNeg ≤ R.slots)
    (kk : mx_G p l e R s m args below meth c Q D cl cT A nL n0 ad0 (pc + 2, L, .ref w.length :: r, w ++ [.inl (t, a0)], kc + 1, ks + n.toNatClampNeg)) : mx_G p l e R s m args below meth c Q D cl cT A nL n0 ad0 (pc, L, .int n :: r, w, kc, ks) := by
  obtain ⟨hx, hb, hml, hown, hts, hnm, hK, hA, hC, hJ, hL, hR, hY⟩ := F
  subst hty
  obtain ⟨aL, a1, a2, a3⟩ := mx_all_inv hal
  have hK2 := (hK.2 t _ ht).2
  rw [hRA] at hK2
  intro ad H locs ls h1 h2 h3 h4 h5 h6 h7
  refine va_newaK hx hb (hts _ hga) rfl hd rfl hn rfl hby hkc hks rfl (fun H1 cA e1 z1 o1 hAr hNm => ?_)
  have hcA : cA = cT t := Option.some.inj (hNm.symm.trans hK2)
  subst hcA
  have hk : ∀ (k : Nat) (x : Nat × va_E), (mx_w cT ad w)[k]? = some x → H1[x.1]? = H[x.1]? := fun k x hx => o1 x.1 ((h4 k x hx).lt)
  have g1 : va_P D cl (mx_w cT ad w ++ [(H.size, .inl (cT t, a0))]) H1 := (h4.kept hk).app (fun k x hx => by
    have hz : k < 1 := (List.getElem?_eq_some_iff.mp hx).1
    rw [show k = 0 by omega] at hx
    cases hx
    show H1[H.size]? = some (vp_cell _ _)
    rw [ha]
    exact e1)
  have g2 : va_D A (mx_w cT ad w ++ [(H.size, .inl (cT t, a0))]) := h5.push h4 rfl (hA _ h6.1)
  have g3 : va_S A s.heap H1 locs := ⟨Nat.le_trans h6.1 (by omega), fun x h1 h2 => (o1 x (Nat.lt_of_lt_of_le h1 h6.1)).trans (h6.2.1 x h1 h2), h6.2.2⟩
  have hpush : mx_w cT ad w ++ [(H.size, .inl (cT t, a0))] = mx_w cT (mx_ext ad w.length H.size) (w ++ [.inl (t, a0)]) := mx_w_push (c := .inl (t, a0)) aL a3 rfl
  rw [hpush] at g1 g2
  have k0 := kk (mx_ext ad w.length H.size) H1 locs ls (mx_h1p aL h3 h1) (fun z => absurd z (Nat.succ_ne_zero _)) (by rw [List.length_append]; exact Nat.le_trans h3 (Nat.le_add_right _ _)) g1 g2 g3 (by rw [mx_l_ag a1 (mx_ext_ag aL)]; exact h7)
  have e3 : List.map (mx_v (mx_ext ad w.length H.size)) (Value.ref w.length :: r) = .ref H.size :: r.map (mx_v ad) := by
    have a4 : r.all (mx_okv w.length) = true := (Bool.and_eq_true_iff.mp (show (mx_okv w.length (.int n) && r.all (mx_okv w.length)) = true from a2)).2
    rw [List.map_cons, mx_vs_ag a4 (mx_ext_ag aL)]
    show Value.ref (mx_ext ad w.length H.size w.length) :: _ = _
    simp [mx_ext]
  rw [e3] at k0
  exact k0
end MXU
end
section
/-! the JDK's steps, and all steps together -/
section MXV
variable {p : Program} {l : Launch} {e : Env} {R : Room} {s : State} {m : MethodId} {args : Array Value} {below : List Frame} {meth : Method} {c : Code} {Q : State → Prop}
variable {D : va_G} {cl : List vw_C} {cT : Nat → ClassId} {A : Nat → Prop} {nL n0 : Nat} {ad0 : Nat → Nat} {ty : Nat → Nat → FieldType} {GT NW : List Jvm.Cond} {MT : Nat → Option mx_M} {M : mx_M}
theorem mx_newa_ok (F : mx_F p R s m args meth c D cl cT A ty GT NW MT M) {at0 : ArrayType} {st st' : mx_S} (hd : decode (mx_cc M) st.1 = .ok (.newarray at0, 2)) (h : mx_newa at0 st = some st') (hkc : st'.2.2.2.2.1 ≤ R.cells) (hks : st'.2.2.2.2.2 ≤ R.slots)
    (kk : mx_G p l e R s m args below meth c Q D cl cT A nL n0 ad0 st') : mx_G p l e R s m args below meth c Q D cl cT A nL n0 ad0 st := by
  have hJ := F.2.2.2.2.2.2.2.2.2.1
  obtain ⟨j1, j2, j3, j4, j5, j6, j7, j8, j9, j10, j11, j12, j13⟩ := hJ
  unfold mx_newa at h
  split at h
  · next pc L n r w kc ks =>
    cases hal : mx_all (pc, L, .int n :: r, w, kc, ks) with
    | false => rw [hal] at h; cases h
    | true =>
      rw [hal] at h
      simp only [cond_true] at h
      split at h
      · next hc =>
        split at h
        · cases h
          exact mx_newa_ok1 F hd rfl (t := 0) rfl j11 rfl hal hc.1 (by show _ * 4 ≤ _; omega) (fun cA => vp_cell_i cA _ _) hkc hks kk
        · cases h
          exact mx_newa_ok1 F hd rfl (t := 1) rfl j12 rfl hal hc.1 (by show _ * 1 ≤ _; omega) (fun cA => vp_cell_i cA _ _) hkc hks kk
        · cases h
          exact mx_newa_ok1 F hd rfl (t := 2) rfl j13 rfl hal hc.1 (by show _ * 8 ≤ _; omega) (fun cA => vp_cell_l cA _ _) hkc hks kk
        · cases h
      · cases h
  · cases h
theorem mx_cs_v {ad : Nat → Nat} {r : List Value} : ((r.map (mx_v ad)).map fun v => v.category).sum = mx_cs r := by
  unfold mx_cs
  rw [List.map_map]
  congr 1
  apply List.map_congr_left
  intro v _
  exact mx_v_cat ad v
theorem mx_okl_link (hL : mx_okL cl GT NW MT M) {x n : Nat} (hq : mx_fd (mx_lm M) x = some n) : (n = 0 → Jvm.Cond.methodLink (mx_own M) x Lib.objectInit ∈ GT) ∧ (n = 1 → Jvm.Cond.methodLink (mx_own M) x Lib.Math.max.name ∈ GT) ∧ (n = 2 → Jvm.Cond.methodLink (mx_own M) x Lib.Math.min.name ∈ GT) ∧ (n = 3 → Jvm.Cond.methodLink (mx_own M) x arraycopyName ∈ GT) ∧ (4 ≤ n → ∀ M', MT n = some M' → Jvm.Cond.methodLink (mx_own M) x (mx_y M') ∈ GT ∨ ∃ host, Jvm.Cond.methodLinkNest (mx_own M) x (mx_y M') host ∈ NW) := by
  have h := hL.2.2.2.2 _ (mx_fd_mem hq)
  dsimp only at h
  rcases h with h | h | h | h | h
  · exact ⟨fun _ => h.2, fun z => by omega, fun z => by omega, fun z => by omega, fun z => by omega⟩
  · exact ⟨fun z => by omega, fun _ => h.2, fun z => by omega, fun z => by omega, fun z => by omega⟩
  · exact ⟨fun z => by omega, fun z => by omega, fun _ => h.2, fun z => by omega, fun z => by omega⟩
  · exact ⟨fun z => by omega, fun z => by omega, fun z => by omega, fun _ => h.2, fun z => by omega⟩
  · exact ⟨fun z => by omega, fun z => by omega, fun z => by omega, fun z => by omega, fun _ => h.2⟩
theorem mx_oinit_ok (F : mx_F p R s m args meth c D cl cT A ty GT NW MT M) {x : Nat} {st st' : mx_S} (hd : decode (mx_cc M) st.1 = .ok (.invokespecial x, 3)) (hq : mx_fd (mx_lm M) x = some 0) (hrk : 0 < mx_rk M) (h : mx_j0 st = some st')
    (kk : mx_G p l e R s m args below meth c Q D cl cT A (mx_ml M) n0 ad0 st') : mx_G p l e R s m args below meth c Q D cl cT A (mx_ml M) n0 ad0 st := by
  obtain ⟨hx, hb, hml, hown, hts, hnm, hK, hA, hC, hJ, hL, hR, hY⟩ := F
  obtain ⟨j1, j2, j3, j4, j5, j6, j7, j8, j9, j10, j11, j12, j13⟩ := hJ
  have hlk := (mx_okl_link hL hq).1 rfl
  obtain ⟨hR1, hR2⟩ := hR hrk
  unfold mx_j0 at h
  split at h
  · next pc L a r k =>
    cases hcs : Nat.ble (mx_cs r) 8 with
    | false => rw [hcs] at h; cases h
    | true =>
      rw [hcs] at h
      cases h
      have hcs : mx_cs r ≤ 8 := Nat.le_of_ble_eq_true hcs
      intro ad H locs ls h1 h2 h3 h4 h5 h6 h7
      refine W.objInit hx hb hown (hts _ hlk) (hts _ j1) (hts _ j2) rfl (h7.1.trans hml.symm) (a := ad a) (rest := r.map (mx_v ad)) rfl hd hR1 ?_ (kk ad H locs ls h1 h2 h3 h4 h5 h6 h7)
      show 2 * 0 + ((r.map (mx_v ad)).map fun v => v.category).sum + 12 ≤ R.locals
      rw [mx_cs_v]
      omega
  · cases h
theorem mx_mm_inv {f : Int32 → Int32 → Int32} {st st' : mx_S} (h : mx_mm f st = some st') : ∃ pc L y x r k, st = (pc, L, .int y :: .int x :: r, k) ∧ st' = (pc + 3, L, .int (f x y) :: r, k) ∧ mx_cs r ≤ 8 := by
  unfold mx_mm at h
  split at h
  · next pc L y x r k =>
    cases hcs : Nat.ble (mx_cs r) 8 with
    | false => rw [hcs] at h; cases h
    | true =>
      rw [hcs] at h
      cases h
      exact ⟨_, _, _, _, _, _, rfl, rfl, Nat.le_of_ble_eq_true hcs⟩
  · cases h
theorem mx_max_ok (F : mx_F p R s m args meth c D cl cT A ty GT NW MT M) {x : Nat} {st st' : mx_S} (hd : decode (mx_cc M) st.1 = .ok (.invokestatic x, 3)) (hq : mx_fd (mx_lm M) x = some 1) (hrk : 0 < mx_rk M) (h : mx_mm (fun x y => if x < y then y else x) st = some st') (hkc : st.2.2.2.2.1 ≤ R.cells) (hks : st.2.2.2.2.2 ≤ R.slots)
    (kk : mx_G p l e R s m args below meth c Q D cl cT A (mx_ml M) n0 ad0 st') : mx_G p l e R s m args below meth c Q D cl cT A (mx_ml M) n0 ad0 st := by
  obtain ⟨hx, hb, hml, hown, hts, hnm, hK, hA, hC, hJ, hL, hR, hY⟩ := F
  obtain ⟨j1, j2, j3, j4, j5, j6, j7, j8, j9, j10, j11, j12, j13⟩ := hJ
  have hlk := (mx_okl_link hL hq).2.1 rfl
  obtain ⟨hR1, hR2⟩ := hR hrk
  obtain ⟨pc, L, y, z, r, k, rfl, rfl, hcs⟩ := mx_mm_inv h
  intro ad H locs ls h1 h2 h3 h4 h5 h6 h7
  exact va_mmax hx hb (hml.trans h7.1.symm) hown (hts _ hlk) (hts _ j3) (hts _ j5) (hts _ j6) hR1 (by rw [mx_cs_v]; omega) hkc hks hd (kk ad H locs ls h1 h2 h3 h4 h5 h6 h7)
theorem mx_min_ok (F : mx_F p R s m args meth c D cl cT A ty GT NW MT M) {x : Nat} {st st' : mx_S} (hd : decode (mx_cc M) st.1 = .ok (.invokestatic x, 3)) (hq : mx_fd (mx_lm M) x = some 2) (hrk : 0 < mx_rk M) (h : mx_mm (fun x y => if y < x then y else x) st = some st') (hkc : st.2.2.2.2.1 ≤ R.cells) (hks : st.2.2.2.2.2 ≤ R.slots)
    (kk : mx_G p l e R s m args below meth c Q D cl cT A (mx_ml M) n0 ad0 st') : mx_G p l e R s m args below meth c Q D cl cT A (mx_ml M) n0 ad0 st := by
  obtain ⟨hx, hb, hml, hown, hts, hnm, hK, hA, hC, hJ, hL, hR, hY⟩ := F
  obtain ⟨j1, j2, j3, j4, j5, j6, j7, j8, j9, j10, j11, j12, j13⟩ := hJ
  have hlk := (mx_okl_link hL hq).2.2.1 rfl
  obtain ⟨hR1, hR2⟩ := hR hrk
  obtain ⟨pc, L, y, z, r, k, rfl, rfl, hcs⟩ := mx_mm_inv h
  intro ad H locs ls h1 h2 h3 h4 h5 h6 h7
  exact va_mmin hx hb (hml.trans h7.1.symm) hown (hts _ hlk) (hts _ j4) (hts _ j5) (hts _ j7) hR1 (by rw [mx_cs_v]; omega) hkc hks hd (kk ad H locs ls h1 h2 h3 h4 h5 h6 h7)
theorem mx_cp_ok (F : mx_F p R s m args meth c D cl cT A ty GT NW MT M) {x : Nat} {st st' : mx_S} (hd : decode (mx_cc M) st.1 = .ok (.invokestatic x, 3)) (hq : mx_fd (mx_lm M) x = some 3) (hrk : 0 < mx_rk M) (h : mx_cp st = some st')
    (kk : mx_G p l e R s m args below meth c Q D cl cT A (mx_ml M) n0 ad0 st') : mx_G p l e R s m args below meth c Q D cl cT A (mx_ml M) n0 ad0 st := by
  obtain ⟨hx, hb, hml, hown, hts, hnm, hK, hA, hC, hJ, hL, hR, hY⟩ := F
  obtain ⟨j1, j2, j3, j4, j5, j6, j7, j8, j9, j10, j11, j12, j13⟩ := hJ
  have hlk := (mx_okl_link hL hq).2.2.2.1 rfl
  obtain ⟨hR1, hR2⟩ := hR hrk
  unfold mx_cp at h
  split at h
  · next pc L z dp a1 sp a0 r w k =>
    split at h
    · next t0 m0 f t1 m1 g hw0 hw1 =>
      split at h
      · next hc =>
        obtain ⟨rfl, rfl, hcs, g1, g2, g3, g4, g5⟩ := hc
        cases h
        have hcs : mx_cs r ≤ 8 := Nat.le_of_ble_eq_true hcs
        intro ad H locs ls h1 h2 h3 h4 h5 h6 h7
        refine va_copyi hx hb (hml.trans h7.1.symm) hown (hts _ hlk) (hts _ j8) (hts _ j9) (hts _ j10) hK h4 h5 h6 a0 a1 0 0 (mx_w_at hw0) (mx_w_at hw1) rfl rfl rfl g1 g2 g3 g4 g5 (fun _ _ => rfl) hR1 ?_ hd (fun H1 locs1 e1 e2 e3 => ?_)
        · rw [mx_cs_v]
          have : nativeFrameWords "java/lang/System" "arraycopy" 5 ≤ 64 := by decide
          omega
        · have hset : (mx_w cT ad w).set a1 (ad a1, .inl (cT 0, m1, .inl (va_cpy f g sp.toNatClampNeg dp.toNatClampNeg z.toNatClampNeg))) = mx_w cT ad (w.set a1 (.inl (0, m1, .inl (va_cpy f g sp.toNatClampNeg dp.toNatClampNeg z.toNatClampNeg)))) := mx_w_set (c := .inl (0, m1, .inl (va_cpy f g sp.toNatClampNeg dp.toNatClampNeg z.toNatClampNeg)))
          exact kk ad H1 locs1 ls (mx_h1 h1) h2 (by rw [List.length_set]; exact h3) (by rw [← hset]; exact e1) (by rw [← hset]; exact e2) e3 h7
      · cases h
    · cases h
  · cases h
theorem mx_sta_ok (F : mx_F p R s m args meth c D cl cT A ty GT NW MT M) {n i : Nat} {st st' : mx_S} (h : mx_sta n i (mx_ml M) st = some st')
    (row : ∀ (x : Nat) (r : List Value) (H : Heap) (locs : List Loc) (cells slots : Nat) (ls : Array Slot) (lv lv' : List (Nat × Value)), lv_has ls (mx_ml M) lv → i < mx_ml M → (i, Value.ref x) :: lv.filter (fun q => !(q.1 == i) && !(q.1 + 1 == i && q.2.category == 2)) = lv' → (∀ ls' : Array Slot, lv_has ls' (mx_ml M) lv' → W p l e R s m args below meth c H locs cells slots Q (F0 m (st.1 + n) ls' r)) → W p l e R s m args below meth c H locs cells slots Q (F0 m st.1 ls (.ref x :: r)))
    (kk : mx_G p l e R s m args below meth c Q D cl cT A (mx_ml M) n0 ad0 st') : mx_G p l e R s m args below meth c Q D cl cT A (mx_ml M) n0 ad0 st := by
  unfold mx_sta at h
  split at h
  · obtain ⟨hi, h⟩ := mx_bif h
    cases h
    intro ad H locs ls h1 h2 h3 h4 h5 h6 h7
    exact row _ _ H locs _ _ ls _ _ h7 (Nat.le_of_ble_eq_true hi) rfl (fun ls' hl => kk ad H locs ls' h1 h2 h3 h4 h5 h6 (mx_st1_has (v := .ref _) hl))
  · cases h
theorem mx_lald_inv {st st' : mx_S} (h : mx_lald st = some st') : ∃ pc L i a r w n N f, st = (pc, L, .int i :: .ref a :: r, w, n) ∧ w[a]? = some (.inl (2, N, .inr (.inl f))) ∧ vp_in i N ∧ st' = (pc + 1, L, .long (f i.toNatClampNeg) :: r, w, n) := by
  unfold mx_lald at h
  split at h
  · next pc L i a r w n =>
    split at h
    · next t' N f hw =>
      split at h
      · next hc =>
        cases h
        obtain ⟨rfl, hc⟩ := hc
        exact ⟨_, _, _, _, _, _, _, _, _, rfl, hw, hc, rfl⟩
      · cases h
    · cases h
  · cases h
theorem mx_last_inv {st st' : mx_S} (h : mx_last st = some st') : ∃ pc L x i a r w n N f, st = (pc, L, .long x :: .int i :: .ref a :: r, w, n) ∧ w[a]? = some (.inl (2, N, .inr (.inl f))) ∧ vp_in i N ∧ st' = (pc + 1, L, r, w.set a (.inl (2, N, .inr (.inl (vp_updL f i.toNatClampNeg x)))), n) := by
  unfold mx_last at h
  split at h
  · next pc L x i a r w n =>
    split at h
    · next t' N f hw =>
      split at h
      · next hc =>
        cases h
        obtain ⟨rfl, hc⟩ := hc
        exact ⟨_, _, _, _, _, _, _, _, _, _, rfl, hw, hc, rfl⟩
      · cases h
    · cases h
  · cases h
theorem mx_lald_ok (F : mx_F p R s m args meth c D cl cT A ty GT NW MT M) {st st' : mx_S} (hd : decode (mx_cc M) st.1 = .ok (.laload, 1)) (h : mx_lald st = some st')
    (kk : mx_G p l e R s m args below meth c Q D cl cT A nL n0 ad0 st') : mx_G p l e R s m args below meth c Q D cl cT A nL n0 ad0 st := by
  obtain ⟨hx, hb, hml, hown, hts, hnm, hK, hA, hC, hJ, hL, hR, hY⟩ := F
  obtain ⟨pc, L, i, a, r, w, n, N, f, rfl, hw, hi, rfl⟩ := mx_lald_inv h
  intro ad H locs ls h1 h2 h3 h4 h5 h6 h7
  exact va_lald hx hb hK h4 a 2 (mx_w_at hw) rfl hi hd (kk ad H locs ls h1 h2 h3 h4 h5 h6 h7)
theorem mx_last_ok (F : mx_F p R s m args meth c D cl cT A ty GT NW MT M) {st st' : mx_S} (hd : decode (mx_cc M) st.1 = .ok (.lastore, 1)) (h : mx_last st = some st')
    (kk : mx_G p l e R s m args below meth c Q D cl cT A nL n0 ad0 st') : mx_G p l e R s m args below meth c Q D cl cT A nL n0 ad0 st := by
  obtain ⟨hx, hb, hml, hown, hts, hnm, hK, hA, hC, hJ, hL, hR, hY⟩ := F
  obtain ⟨pc, L, x, i, a, r, w, n, N, f, rfl, hw, hi, rfl⟩ := mx_last_inv h
  intro ad H locs ls h1 h2 h3 h4 h5 h6 h7
  refine va_last hx hb hK h4 h5 h6 a 2 (mx_w_at hw) rfl hi hd (fun H1 locs1 g1 g2 g3 => ?_)
  have hset : (mx_w cT ad w).set a (ad a, .inl (cT 2, N, .inr (.inl (vp_updL f i.toNatClampNeg x)))) = mx_w cT ad (w.set a (.inl (2, N, .inr (.inl (vp_updL f i.toNatClampNeg x))))) := mx_w_set (c := .inl (2, N, .inr (.inl (vp_updL f i.toNatClampNeg x))))
  have g1 : va_P D cl (mx_w cT ad (w.set a (.inl (2, N, .inr (.inl (vp_updL f i.toNatClampNeg x)))))) H1 := by rw [← hset]; exact g1
  have g2 : va_D A (mx_w cT ad (w.set a (.inl (2, N, .inr (.inl (vp_updL f i.toNatClampNeg x)))))) := by rw [← hset]; exact g2
  exact kk ad H1 locs1 ls (mx_h1 h1) h2 (by rw [List.length_set]; exact h3) g1 g2 g3 h7
end MXV
end
section
/-! every step -/
section MXW
variable {p : Program} {l : Launch} {e : Env} {R : Room} {s : State} {m : MethodId} {args : Array Value} {below : List Frame} {meth : Method} {c : Code} {Q : State → Prop}
variable {D : va_G} {cl : List vw_C} {cT : Nat → ClassId} {A : Nat → Prop} {nL n0 : Nat} {ad0 : Nat → Nat} {ty : Nat → Nat → FieldType} {GT NW : List Jvm.Cond} {MT : Nat → Option mx_M} {M : mx_M}
theorem mx_bind {α β : Type} {o : Option α} {f : α → Option β} {b : β} (h : o.bind f = some b) : ∃ a, o = some a ∧ f a = some b := by
  cases o with
  | none => cases h
  | some a => exact ⟨a, rfl, h⟩
set_option maxHeartbeats 1000000 in
theorem mx_go_ok (F : mx_F p R s m args meth c D cl cT A ty GT NW MT M) {i : Instr} {len : Nat} {st st' : mx_S} (hd : decode (mx_cc M) st.1 = .ok (i, len)) (h : mx_go cl ty M i len st = some st') (hkc0 : st.2.2.2.2.1 ≤ R.cells) (hks0 : st.2.2.2.2.2 ≤ R.slots) (hkc : st'.2.2.2.2.1 ≤ R.cells) (hks : st'.2.2.2.2.2 ≤ R.slots)
    (kk : mx_G p l e R s m args below meth c Q D cl cT A (mx_ml M) n0 ad0 st') : mx_G p l e R s m args below meth c Q D cl cT A (mx_ml M) n0 ad0 st := by
  have F0' := F
  obtain ⟨hx, hb, hml, hown, hts, hnm, hK, hA, hC, hJ, hL, hR, hY⟩ := F0'
  unfold mx_go at h
  cases hlo : mx_lok i len with
  | false => rw [hlo] at h; cases h
  | true =>
    rw [hlo] at h
    simp only [cond_true] at h
    unfold mx_stp at h
    split at h
    · -- iconst
      obtain rfl : len = 1 := by simpa [mx_lok] using hlo
      cases h
      exact mx_pure (fun ad H locs ls hl k => lv_iconst hx hb hd (mx_k_eq _) k) kk
    · obtain rfl : len = 2 := by simpa [mx_lok] using hlo
      obtain ⟨hr, h⟩ := mx_bif h
      simp only [Bool.and_eq_true, decide_eq_true_eq] at hr
      cases h
      exact mx_pure (fun ad H locs ls hl k => lv_bipush hx hb hd (mx_k_8 hr.1 hr.2) k) kk
    · obtain rfl : len = 3 := by simpa [mx_lok] using hlo
      obtain ⟨hr, h⟩ := mx_bif h
      simp only [Bool.and_eq_true, decide_eq_true_eq] at hr
      cases h
      exact mx_pure (fun ad H locs ls hl k => lv_sipush hx hb hd (mx_k_16 hr.1 hr.2) k) kk
    · obtain rfl : len = 2 := by simpa [mx_lok] using hlo
      obtain ⟨v, hv, h⟩ := mx_bind h
      cases h
      exact mx_pure (fun ad H locs ls hl k => lv_ldc hx hb hown (hts _ (hL.2.2.1 _ (mx_fd_mem hv))) hd k) kk
    · obtain rfl : len = 3 := by simpa [mx_lok] using hlo
      obtain ⟨v, hv, h⟩ := mx_bind h
      cases h
      exact mx_pure (fun ad H locs ls hl k => lv_ldcw hx hb hown (hts _ (hL.2.2.1 _ (mx_fd_mem hv))) hd k) kk
    · obtain rfl : len = 3 := by simpa [mx_lok] using hlo
      obtain ⟨v, hv, h⟩ := mx_bind h
      cases h
      exact mx_pure (fun ad H locs ls hl k => lv_ldc2 hx hb hown (hts _ (hL.2.2.2.1 _ (mx_fd_mem hv))) hd k) kk
    · obtain rfl : len = 2 := by simpa [mx_lok] using hlo
      exact mx_ldi_ok h (fun _ _ _ _ _ _ _ hl k => lv_iload hx hb hd hl k) kk
    · obtain rfl : len = 1 := by simpa [mx_lok] using hlo
      exact mx_ldi_ok h (fun _ _ _ _ _ _ _ hl k => lv_iload_n hx hb hd rfl hl k) kk
    · obtain rfl : len = 2 := by simpa [mx_lok] using hlo
      exact mx_ldl_ok h (fun _ _ _ _ _ _ _ hl k => lv_lload hx hb hd hl k) kk
    · obtain rfl : len = 1 := by simpa [mx_lok] using hlo
      exact mx_ldl_ok h (fun _ _ _ _ _ _ _ hl k => lv_lload_n hx hb hd rfl hl k) kk
    · obtain rfl : len = 2 := by simpa [mx_lok] using hlo
      exact mx_lda_ok h (fun _ _ _ _ _ _ _ hl k => lv_aload hx hb hd hl k) kk
    · obtain rfl : len = 1 := by simpa [mx_lok] using hlo
      exact mx_lda_ok h (fun _ _ _ _ _ _ _ hl k => lv_aload_n hx hb hd rfl hl k) kk
    · obtain rfl : len = 2 := by simpa [mx_lok] using hlo
      exact mx_sti_ok F h (fun _ _ _ _ _ _ _ _ _ g1 g2 g3 k => lv_istore hx hb hd g1 g2 g3 k) kk
    · obtain rfl : len = 1 := by simpa [mx_lok] using hlo
      exact mx_sti_ok F h (fun _ _ _ _ _ _ _ _ _ g1 g2 g3 k => lv_istore_n hx hb hd rfl g1 g2 g3 k) kk
    · obtain rfl : len = 3 := by simpa [mx_lok] using hlo
      exact mx_inc_ok F hd h kk
    · obtain rfl : len = 1 := by simpa [mx_lok] using hlo
      obtain ⟨pc, L, y, x, r, k, rfl, rfl⟩ := mx_ii_inv h
      exact mx_pure (fun ad H locs ls hl k => lv_iadd hx hb hd k) kk
    · obtain rfl : len = 1 := by simpa [mx_lok] using hlo
      obtain ⟨pc, L, y, x, r, k, rfl, rfl⟩ := mx_ii_inv h
      exact mx_pure (fun ad H locs ls hl k => lv_isub hx hb hd k) kk
    · obtain rfl : len = 1 := by simpa [mx_lok] using hlo
      obtain ⟨pc, L, y, x, r, k, rfl, rfl⟩ := mx_ii_inv h
      exact mx_pure (fun ad H locs ls hl k => lv_imul hx hb hd k) kk
    · obtain rfl : len = 1 := by simpa [mx_lok] using hlo
      obtain ⟨pc, L, y, x, r, k, rfl, rfl⟩ := mx_ii_inv h
      exact mx_pure (fun ad H locs ls hl k => lv_iand hx hb hd k) kk
    · obtain rfl : len = 1 := by simpa [mx_lok] using hlo
      obtain ⟨pc, L, y, x, r, k, rfl, rfl⟩ := mx_ii_inv h
      exact mx_pure (fun ad H locs ls hl k => lv_ior hx hb hd k) kk
    · obtain rfl : len = 1 := by simpa [mx_lok] using hlo
      obtain ⟨pc, L, y, x, r, k, rfl, rfl⟩ := mx_ii_inv h
      exact mx_pure (fun ad H locs ls hl k => lv_ixor hx hb hd k) kk
    · obtain rfl : len = 1 := by simpa [mx_lok] using hlo
      obtain ⟨pc, L, y, x, r, k, rfl, rfl⟩ := mx_ii_inv h
      exact mx_pure (fun ad H locs ls hl k => lv_ishl hx hb hd k) kk
    · obtain rfl : len = 1 := by simpa [mx_lok] using hlo
      obtain ⟨pc, L, y, x, r, k, rfl, rfl⟩ := mx_ii_inv h
      exact mx_pure (fun ad H locs ls hl k => lv_ishr hx hb hd k) kk
    · obtain rfl : len = 1 := by simpa [mx_lok] using hlo
      obtain ⟨pc, L, y, x, r, k, rfl, rfl⟩ := mx_ii_inv h
      exact mx_pure (fun ad H locs ls hl k => lv_iushr hx hb hd rfl k) kk
    · obtain rfl : len = 1 := by simpa [mx_lok] using hlo
      obtain ⟨pc, L, y, x, r, k, rfl, rfl, hy⟩ := mx_dv_inv h
      exact mx_pure (fun ad H locs ls hl k => lv_idiv hx hb hd hy k) kk
    · obtain rfl : len = 1 := by simpa [mx_lok] using hlo
      obtain ⟨pc, L, y, x, r, k, rfl, rfl, hy⟩ := mx_dv_inv h
      exact mx_pure (fun ad H locs ls hl k => lv_irem hx hb hd hy k) kk
    · obtain rfl : len = 1 := by simpa [mx_lok] using hlo
      obtain ⟨pc, L, y, x, r, k, rfl, rfl⟩ := mx_i2_inv h
      exact mx_pure (fun ad H locs ls hl k => lv_land hx hb hd k) kk
    · obtain rfl : len = 1 := by simpa [mx_lok] using hlo
      obtain ⟨pc, L, y, x, r, k, rfl, rfl⟩ := mx_ls_inv h
      exact mx_pure (fun ad H locs ls hl k => lv_lshr hx hb hd rfl k) kk
    · obtain rfl : len = 1 := by simpa [mx_lok] using hlo
      obtain ⟨pc, L, y, x, r, k, rfl, rfl⟩ := mx_ls_inv h
      exact mx_pure (fun ad H locs ls hl k => lv_lushr hx hb hd rfl k) kk
    · obtain rfl : len = 1 := by simpa [mx_lok] using hlo
      unfold mx_l2i at h
      split at h
      · cases h; exact mx_pure (fun ad H locs ls hl k => lv_l2i hx hb hd rfl k) kk
      · cases h
    · obtain rfl : len = 1 := by simpa [mx_lok] using hlo
      unfold mx_dup at h
      split at h
      · next pc L v r k =>
        cases hv : (v.category == 1) with
        | false => rw [hv] at h; cases h
        | true =>
          rw [hv] at h; cases h
          have hv : v.category = 1 := by simpa using hv
          exact mx_pure (fun ad H locs ls hl k => lv_dup hx hb hd (by rw [mx_v_cat]; exact hv) k) kk
      · cases h
    · obtain rfl : len = 1 := by simpa [mx_lok] using hlo
      unfold mx_dup2 at h
      split at h
      · next pc L v u r k =>
        cases hv : (v.category == 1 && u.category == 1) with
        | false => rw [hv] at h; cases h
        | true =>
          rw [hv] at h; cases h
          simp only [Bool.and_eq_true, beq_iff_eq] at hv
          exact mx_pure (fun ad H locs ls hl k => lv_dup2_11 hx hb hd (by rw [mx_v_cat]; exact hv.1) (by rw [mx_v_cat]; exact hv.2) k) kk
      · cases h
    · obtain rfl : len = 1 := by simpa [mx_lok] using hlo
      unfold mx_pop at h
      split at h
      · next pc L v r k =>
        cases hv : (v.category == 1) with
        | false => rw [hv] at h; cases h
        | true =>
          rw [hv] at h; cases h
          have hv : v.category = 1 := by simpa using hv
          exact mx_pure (fun ad H locs ls hl k => lv_pop hx hb hd (by rw [mx_v_cat]; exact hv) k) kk
      · cases h
    · obtain rfl : len = 3 := by simpa [mx_lok] using hlo
      exact mx_goto_ok F hd h kk
    · obtain rfl : len = 3 := by simpa [mx_lok] using hlo
      exact mx_if_ok F hd h kk
    · obtain rfl : len = 3 := by simpa [mx_lok] using hlo
      exact mx_cmp_ok F hd h kk
    · exact mx_tab_ok F hd h kk
    · obtain rfl : len = 3 := by simpa [mx_lok] using hlo
      exact mx_getf_ok F hd h kk
    · obtain rfl : len = 3 := by simpa [mx_lok] using hlo
      exact mx_putf_ok F hd h kk
    · obtain rfl : len = 1 := by simpa [mx_lok] using hlo
      exact mx_alen_ok F hd h kk
    · obtain rfl : len = 1 := by simpa [mx_lok] using hlo
      exact mx_iald_ok F hd h kk
    · obtain rfl : len = 1 := by simpa [mx_lok] using hlo
      exact mx_iast_ok F hd h kk
    · obtain rfl : len = 1 := by simpa [mx_lok] using hlo
      exact mx_zald_ok F hd h kk
    · obtain rfl : len = 1 := by simpa [mx_lok] using hlo
      exact mx_zast_ok F hd h kk
    · obtain rfl : len = 3 := by simpa [mx_lok] using hlo
      exact mx_newc_ok F hd h hkc hks kk
    · obtain rfl : len = 2 := by simpa [mx_lok] using hlo
      exact mx_newa_ok F hd h hkc hks kk
    · obtain rfl : len = 3 := by simpa [mx_lok] using hlo
      obtain ⟨n, hn, h⟩ := mx_bind h
      cases hv : (n == 0 && Nat.blt 0 (mx_rk M)) with
      | false => rw [hv] at h; cases h
      | true =>
        rw [hv] at h
        obtain ⟨h1, h2⟩ := Bool.and_eq_true_iff.mp hv
        obtain rfl : n = 0 := by simpa using h1
        exact mx_oinit_ok F hd hn (Nat.le_of_ble_eq_true h2) h kk
    · obtain rfl : len = 3 := by simpa [mx_lok] using hlo
      obtain ⟨n, hn, h⟩ := mx_bind h
      cases hv : Nat.blt 0 (mx_rk M) with
      | false => rw [hv] at h; cases h
      | true =>
        rw [hv] at h
        have h2 : 0 < mx_rk M := Nat.le_of_ble_eq_true hv
        simp only [cond_true] at h
        unfold mx_jdk at h
        split at h
        · exact mx_max_ok F hd hn h2 h hkc0 hks0 kk
        · exact mx_min_ok F hd hn h2 h hkc0 hks0 kk
        · exact mx_cp_ok F hd hn h2 h kk
        · cases h
    · obtain rfl : len = 2 := by simpa [mx_lok] using hlo
      exact mx_sta_ok F h (fun _ _ _ _ _ _ _ _ _ g1 g2 g3 k => lv_astore hx hb hd g1 g2 g3 k) kk
    · obtain rfl : len = 1 := by simpa [mx_lok] using hlo
      exact mx_sta_ok F h (fun _ _ _ _ _ _ _ _ _ g1 g2 g3 k => lv_astore_n hx hb hd rfl g1 g2 g3 k) kk
    · obtain rfl : len = 1 := by simpa [mx_lok] using hlo
      unfold mx_i2l at h
      split at h
      · cases h; exact mx_pure (fun ad H locs ls hl k => lv_i2l hx hb hd rfl k) kk
      · cases h
    · obtain rfl : len = 1 := by simpa [mx_lok] using hlo
      unfold mx_lcmp at h
      split at h
      · cases h; exact mx_pure (fun ad H locs ls hl k => W.lcmp hx hb hd k) kk
      · cases h
    · obtain rfl : len = 1 := by simpa [mx_lok] using hlo
      obtain ⟨pc, L, y, x, r, k, rfl, rfl⟩ := mx_i2_inv h
      exact mx_pure (fun ad H locs ls hl k => lv_lor hx hb hd k) kk
    · obtain rfl : len = 1 := by simpa [mx_lok] using hlo
      obtain ⟨pc, L, y, x, r, k, rfl, rfl⟩ := mx_ls_inv h
      exact mx_pure (fun ad H locs ls hl k => lv_lshl hx hb hd rfl k) kk
    · obtain rfl : len = 1 := by simpa [mx_lok] using hlo
      exact mx_lald_ok F hd h kk
    · obtain rfl : len = 1 := by simpa [mx_lok] using hlo
      exact mx_last_ok F hd h kk
    · cases h
end MXW
end
section
/-! calls, and a method's contract out of its run -/
/-- the words of a method: its code, and all -/
abbrev mx_ws (GT : List Jvm.Cond) (M : mx_M) : List Jvm.Cond := Jvm.Cond.code (mx_y M) (mx_cc M) (mx_ml M) (mx_ret M) :: GT
abbrev mx_rm (M : mx_M) (q : mx_A) : Room := { frames := mx_rk M, cells := q.2.2.1, slots := q.2.2.2, locals := 256 * mx_rk M }
def mx_Pc (D : va_G) (cl : List vw_C) (cT : Nat → ClassId) (NW : List Jvm.Cond) (ad : Nat → Nat) (av : List Value) (w : mx_W) (sz : Nat) : Array Value → State → Prop := va_Pc (av.map (mx_v ad)) (fun U => U.heap.size = sz ∧ va_P D cl (mx_w cT ad w) U.heap ∧ va_K D cl (mx_tys cT) U ∧ va_D (fun _ => True) (mx_w cT ad w) ∧ ∀ z ∈ NW, va_Nw z U)
def mx_Qc (D : va_G) (cl : List vw_C) (cT : Nat → ClassId) (ad : Nat → Nat) (w : mx_W) (sz : Nat) (q : mx_A) : Array Value → State → Outcome → State → Prop := fun _ st oc t =>
  (∃ ad' : Nat → Nat, (∀ k, k < w.length ∨ q.2.1.length ≤ k → ad' k = ad k) ∧ (q.2.2.1 = 0 → ad' = ad) ∧ w.length ≤ q.2.1.length ∧ oc = .returned (q.1.map (mx_v ad')) ∧ va_P D cl (mx_w cT ad' q.2.1) t.heap ∧ va_D (va_A (mx_w cT ad w) sz) (mx_w cT ad' q.2.1)) ∧ va_F (va_A (mx_w cT ad w) sz) st t
def mx_good (GT : List Jvm.Cond) : Prop := ∀ w ∈ GT, (w.onTables && w.keeps) = true ∨ ∃ ty, w = Jvm.Cond.arrayClass ty
def mx_nest (NW : List Jvm.Cond) : Prop := ∀ z ∈ NW, ∃ a i x h, z = Jvm.Cond.methodLinkNest a i x h
theorem mx_NW_warm {NW : List Jvm.Cond} (hN : mx_nest NW) {s U : State} (hW : s.WarmedH U.vm) (h : ∀ z ∈ NW, va_Nw z s) : ∀ z ∈ NW, va_Nw z U := by
  intro z hz
  obtain ⟨a, i, x, hh, rfl⟩ := hN z hz
  exact va_Nw.warmM hW (h _ hz)
theorem mx_Pc_blind {D : va_G} {cl : List vw_C} {cT : Nat → ClassId} {NW : List Jvm.Cond} (hN : mx_nest NW) {ad : Nat → Nat} {av : List Value} {w : mx_W} {sz : Nat} : FrameBlind (mx_Pc D cl cT NW ad av w sz) := by
  intro a U g mk q
  obtain ⟨q0, q1, qP, qK, qD, qN⟩ := q
  refine ⟨q0, q1, qP, va_K.moved (u := U) (U := U.calling g mk a) (Vm.Alike.refl U.vm) qK, qD, fun z hz => ?_⟩
  obtain ⟨a', i, x, hh, rfl⟩ := hN z hz
  exact va_Nw.same rfl rfl (qN _ hz)
theorem mx_largs {ad : Nat → Nat} : ∀ (av : List Value) (i : Nat), lv_args i (av.map (mx_v ad)) = mx_l ad (lv_args i av) := by
  intro av
  induction av with
  | nil => intro i; rfl
  | cons v vs ih =>
    intro i
    show (i, mx_v ad v) :: lv_args (if (mx_v ad v).category = 2 then i + 2 else i + 1) (vs.map (mx_v ad)) = (i, mx_v ad v) :: mx_l ad (lv_args (if v.category = 2 then i + 2 else i + 1) vs)
    rw [mx_v_cat, ih]
theorem mx_slen : ∀ (av : List Value), (lg_sl av).length = mx_cs av := by
  intro av
  induction av with
  | nil => rfl
  | cons v vs ih =>
    unfold lg_sl mx_cs at *
    rw [List.flatMap_cons, List.length_append, ih, List.map_cons, List.sum_cons]
    congr 1
    rcases lv_cat v with h | h
    · rw [if_neg (by omega), h]; rfl
    · rw [if_pos h, h]; rfl
theorem mx_cs_map {ad : Nat → Nat} {r : List Value} : mx_cs (r.map (mx_v ad)) = mx_cs r := mx_cs_v
section MXC
variable {p : Program} {l : Launch} {e : Env} {R : Room} {s : State} {m : MethodId} {args : Array Value} {below : List Frame} {meth : Method} {c : Code} {Q : State → Prop}
variable {D : va_G} {cl : List vw_C} {cT : Nat → ClassId} {A : Nat → Prop} {nL n0 : Nat} {ad0 : Nat → Nat} {ty : Nat → Nat → FieldType} {GT NW : List Jvm.Cond} {MT : Nat → Option mx_M} {M M' : mx_M}
/-- behind a call -/
theorem mx_after {pc : Nat} {ls : Array Slot} {st0 rest : List Value} {H : Heap} {locs : List Loc} {cells slots : Nat} {a : Array Value} {ad : Nat → Nat} {w : mx_W} {q : mx_A}
    (hr : va_Run p l e R s m args below meth c H locs cells slots q.2.2.1 q.2.2.2 (F0 m pc ls st0) rest (mx_Qc D cl cT ad w H.size q a) (va_A (mx_w cT ad w) H.size)) (hS : va_S A s.heap H locs) (hF : ∀ z, va_A (mx_w cT ad w) H.size z → A z)
    (kk : ∀ (ad' : Nat → Nat) (H1 : Heap) (locs1 : List Loc), (∀ k, k < w.length ∨ q.2.1.length ≤ k → ad' k = ad k) → (q.2.2.1 = 0 → ad' = ad) → w.length ≤ q.2.1.length → va_P D cl (mx_w cT ad' q.2.1) H1 → va_D A (mx_w cT ad' q.2.1) → va_S A s.heap H1 locs1 → W p l e R s m args below meth c H1 locs1 (cells + q.2.2.1) (slots + q.2.2.2) Q (F0 m (pc + 3) ls ((q.1.map (mx_v ad')).toList ++ rest))) :
    W p l e R s m args below meth c H locs cells slots Q (F0 m pc ls st0) := by
  intro T hT X
  obtain ⟨v, st₀, t, T', L, h0, X', hL, e1, e2, ⟨⟨ad', g1, g2, g3, hv, g4, g5⟩, hz, hk⟩, st⟩ := hr T hT X
  have hv : v = q.1.map (mx_v ad') := by injection hv
  subst hv
  rw [h0] at hz hk
  obtain ⟨t2, a1, b1⟩ := kk ad' T'.heap (locs ++ L) g1 g2 g3 (by rw [e1]; exact g4) (g5.weaken (fun _ _ _ h => hF _ h))
    ⟨Nat.le_trans hS.1 (by rw [e1]; exact hz), fun z h1 h2 => by rw [e1, hk z (Nat.lt_of_lt_of_le h1 hS.1) (fun y => h2 (hF z y))]; exact hS.2.1 z h1 h2, fun z hq => by
      rcases List.mem_append.mp hq with h | h
      · exact hS.2.2 z h
      · exact hF _ (hL z h)⟩ T' rfl X'
  exact ⟨t2, st t2 a1, b1⟩
theorem mx_goodIn (hG : mx_good GT) (hc : Jvm.Cond.code (mx_y M') (mx_cc M') (mx_ml M') (mx_ret M') ∈ GT) : GoodIn GT (mx_ws GT M') := by
  intro w hw
  rcases List.mem_cons.mp hw with rfl | hw
  · exact ⟨hc, hG _ hc⟩
  · exact ⟨hw, hG _ hw⟩
theorem mx_Pre (hN : mx_nest NW) (hNs : ∀ z ∈ NW, va_Nw z s) (hK : va_K D cl (mx_tys cT) s) {H : Heap} {ad : Nat → Nat} {w : mx_W} (hP : va_P D cl (mx_w cT ad w) H) (hD : va_D A (mx_w cT ad w)) (av : List Value) : PreS s H (mx_Pc D cl cT NW ad av w H.size) (av.map (mx_v ad)) := by
  refine ⟨mx_Pc_blind hN, fun U hU hW => ⟨rfl, by rw [hU], by rw [hU]; exact hP, va_K.moved hW.alike hK, hD.weaken (fun _ _ _ _ => trivial), mx_NW_warm hN hW hNs⟩⟩
theorem mx_aF {H : Heap} {locs : List Loc} {ad : Nat → Nat} {w : mx_W} (hA : ∀ q, s.heap.size ≤ q → A q) (hD : va_D A (mx_w cT ad w)) (hS : va_S A s.heap H locs) : ∀ z, va_A (mx_w cT ad w) H.size z → A z := by
  intro z h
  rcases h with ⟨k, x, h⟩ | h
  · exact hD.2 k _ h
  · exact hA z (Nat.le_trans hS.1 h)
theorem mx_td {S : List Value} {n : Nat} {ad : Nat → Nat} : S.map (mx_v ad) = ((S.take n).reverse.map (mx_v ad)).reverse ++ (S.drop n).map (mx_v ad) := by
  rw [List.map_reverse, List.reverse_reverse, ← List.map_append, List.take_append_drop]
theorem mx_tl {S : List Value} {n : Nat} {ad : Nat → Nat} (h : n ≤ S.length) : ((S.take n).reverse.map (mx_v ad)).length = n := by
  rw [List.length_map, List.length_reverse, List.length_take]
  omega
end MXC
end
section
/-! a call of the small machine is the machine's; a run is; the contract -/
section MXD
variable {p : Program} {l : Launch} {e : Env} {R : Room} {s : State} {m : MethodId} {args : Array Value} {below : List Frame} {meth : Method} {c : Code} {Q : State → Prop}
variable {D : va_G} {cl : List vw_C} {cT : Nat → ClassId} {A : Nat → Prop} {nL n0 : Nat} {ad0 : Nat → Nat} {ty : Nat → Nat → FieldType} {GT NW : List Jvm.Cond} {MT : Nat → Option mx_M} {M M' : mx_M}
theorem mx_cal_inv {i : Instr} {st : mx_S} {n : Nat} {av rest : List Value} (h : mx_cal MT M i st = some (n, M', av, rest)) :
    ∃ x, mx_fd (mx_lm M) x = some n ∧ MT n = some M' ∧ mx_rk M' < mx_rk M ∧ mx_np M' ≤ st.2.2.1.length ∧ 4 ≤ n ∧ mx_cs rest ≤ 8 ∧
      ((i = .invokestatic x ∧ mx_kd M' = 1 ∧ av = (st.2.2.1.take (mx_np M')).reverse ∧ rest = st.2.2.1.drop (mx_np M')) ∨
       (i = .invokevirtual x ∧ mx_kd M' = 0 ∧ ∃ a fs, st.2.2.1.drop (mx_np M') = .ref a :: rest ∧ av = .ref a :: (st.2.2.1.take (mx_np M')).reverse ∧ st.2.2.2.1[a]? = some (.inr (mx_ci M', fs))) ∨
       (i = .invokespecial x ∧ mx_kd M' = 2 ∧ ∃ a, st.2.2.1.drop (mx_np M') = .ref a :: rest ∧ av = .ref a :: (st.2.2.1.take (mx_np M')).reverse)) := by
  unfold mx_cal at h
  split at h
  · next x =>
    obtain ⟨n', hn, h⟩ := mx_bind h
    obtain ⟨M'', hM, h⟩ := mx_bind h
    cases hv : (mx_kd M'' == 1 && Nat.blt (mx_rk M'') (mx_rk M) && Nat.ble (mx_np M'') st.2.2.1.length && Nat.ble (mx_cs (st.2.2.1.drop (mx_np M''))) 8 && Nat.ble 4 n') with
    | false => rw [hv] at h; cases h
    | true =>
      rw [hv] at h
      cases h
      simp only [Bool.and_eq_true, beq_iff_eq] at hv
      obtain ⟨⟨⟨⟨h1, h2⟩, h3⟩, h4⟩, h5⟩ := hv
      exact ⟨x, hn, hM, Nat.le_of_ble_eq_true h2, Nat.le_of_ble_eq_true h3, Nat.le_of_ble_eq_true h5, Nat.le_of_ble_eq_true h4, Or.inl ⟨rfl, h1, rfl, rfl⟩⟩
  · next x =>
    obtain ⟨n', hn, h⟩ := mx_bind h
    obtain ⟨M'', hM, h⟩ := mx_bind h
    cases hv : (mx_kd M'' == 0 && Nat.blt (mx_rk M'') (mx_rk M) && Nat.ble (mx_np M'') st.2.2.1.length && Nat.ble 4 n') with
    | false => rw [hv] at h; cases h
    | true =>
      rw [hv] at h
      simp only [cond_true] at h
      simp only [Bool.and_eq_true, beq_iff_eq] at hv
      obtain ⟨⟨⟨h1, h2⟩, h3⟩, h5⟩ := hv
      split at h
      · next a rest' hdr =>
        split at h
        · next ci fs hw =>
          cases hc : (Nat.ble (mx_cs rest') 8 && ci == mx_ci M'') with
          | false => rw [hc] at h; cases h
          | true =>
            rw [hc] at h
            cases h
            simp only [Bool.and_eq_true, beq_iff_eq] at hc
            exact ⟨x, hn, hM, Nat.le_of_ble_eq_true h2, Nat.le_of_ble_eq_true h3, Nat.le_of_ble_eq_true h5, Nat.le_of_ble_eq_true hc.1, Or.inr (Or.inl ⟨rfl, h1, a, fs, hdr, rfl, by rw [← hc.2]; exact hw⟩)⟩
        · cases h
      · cases h
  · next x =>
    obtain ⟨n', hn, h⟩ := mx_bind h
    obtain ⟨M'', hM, h⟩ := mx_bind h
    cases hv : (mx_kd M'' == 2 && Nat.blt (mx_rk M'') (mx_rk M) && Nat.ble (mx_np M'') st.2.2.1.length && Nat.ble 4 n') with
    | false => rw [hv] at h; cases h
    | true =>
      rw [hv] at h
      simp only [cond_true] at h
      simp only [Bool.and_eq_true, beq_iff_eq] at hv
      obtain ⟨⟨⟨h1, h2⟩, h3⟩, h5⟩ := hv
      split at h
      · next a rest' hdr =>
        cases hc : Nat.ble (mx_cs rest') 8 with
        | false => rw [hc] at h; cases h
        | true =>
          rw [hc] at h
          cases h
          exact ⟨x, hn, hM, Nat.le_of_ble_eq_true h2, Nat.le_of_ble_eq_true h3, Nat.le_of_ble_eq_true h5, Nat.le_of_ble_eq_true hc, Or.inr (Or.inr ⟨rfl, h1, a, hdr, rfl⟩)⟩
      · cases h
  · cases h
set_option maxHeartbeats 1000000 in
theorem mx_call_ok (F : mx_F p R s m args meth c D cl cT A ty GT NW MT M) (hG : mx_good GT) (hN : mx_nest NW) (hNs : ∀ z ∈ NW, va_Nw z s) (hY : mx_okY cl GT M') {i : Instr} {st : mx_S} {n : Nat} {av rest : List Value} {q : mx_A} (hd : decode (mx_cc M) st.1 = .ok (i, 3)) (h : mx_cal MT M i st = some (n, M', av, rest))
    (hM : ∀ (ad : Nat → Nat) (sz : Nat), Met l (mx_y M') (mx_ws GT M') (mx_rm M' q) (mx_Pc D cl cT NW ad av st.2.2.2.1 sz) (mx_Qc D cl cT ad st.2.2.2.1 sz q) q.2.2.1 q.2.2.2 (va_A (mx_w cT ad st.2.2.2.1) sz))
    (hRf : mx_rk M ≤ R.frames) (hRl : 256 * mx_rk M ≤ R.locals) (hkc : st.2.2.2.2.1 + q.2.2.1 ≤ R.cells) (hks : st.2.2.2.2.2 + q.2.2.2 ≤ R.slots) (hkeep : q.2.2.1 = 0 ∨ (Nat.ble q.2.1.length 1000 && mx_okl st.2.2.2.1.length st.2.1 && rest.all (mx_okv st.2.2.2.1.length)) = true)
    (kk : mx_G p l e R s m args below meth c Q D cl cT A (mx_ml M) n0 ad0 (st.1 + 3, st.2.1, q.1.toList ++ rest, q.2.1, st.2.2.2.2.1 + q.2.2.1, st.2.2.2.2.2 + q.2.2.2)) : mx_G p l e R s m args below meth c Q D cl cT A (mx_ml M) n0 ad0 st := by
  obtain ⟨hx, hb, hml, hown, hts, hnm, hK, hA, hC, hJ, hL, hR, hYM⟩ := F
  obtain ⟨y1, y2, y3, y4, y5, y6, y7, y8, y9, y10, y11⟩ := hY
  obtain ⟨x, hq, hMT, hrk, hlen, h4n, hcs, hcase⟩ := mx_cal_inv h
  have hlink := (mx_okl_link hL hq).2.2.2.2 h4n M' hMT
  have hGI : GoodIn GT (mx_ws GT M') := mx_goodIn hG y3
  have hRoom : (mx_rm M' q).frames + 1 ≤ R.frames ∧ 8 + (mx_ml M' + 11) + (mx_rm M' q).locals ≤ R.locals := by
    refine ⟨?_, ?_⟩
    · show mx_rk M' + 1 ≤ R.frames
      omega
    · show 8 + (mx_ml M' + 11) + 256 * mx_rk M' ≤ R.locals
      omega
  intro ad H locs ls h1 h2 h3 h4 h5 h6 h7
  have hcr : 2 * (F0 m st.1 ls (st.2.2.1.map (mx_v ad))).monitorRoom + ((rest.map (mx_v ad)).map fun v => v.category).sum ≤ 8 := lv_room (by rw [mx_cs_v]; exact hcs)
  have hpre := mx_Pre (A := A) hN hNs hK h4 h5 av
  have S : CallFix p m c (mx_cc M) (mx_ml M) s args GT (mx_own M) := ⟨hx, hb, hml, hown, hts⟩
  have hB : Jvm.Cond.methodLink (mx_own M) x (mx_y M') ∈ GT → CallB R s args (mx_own M) x (mx_y M') (mx_cc M') (mx_ml M') (mx_ret M') (mx_ws GT M') (mx_rm M' q) q.2.2.1 q.2.2.2 (mx_np M') := fun hlk =>
    callB_of (mx_np M') hts hGI rfl rfl rfl (hts _ y4) (hts _ hlk) ⟨y5, y6, y7⟩ hRoom
  have hBN : ∀ host, Jvm.Cond.methodLinkNest (mx_own M) x (mx_y M') host ∈ NW → va_CN R s args (mx_own M) x (mx_y M') host (mx_cc M') (mx_ml M') (mx_ret M') (mx_ws GT M') (mx_rm M' q) q.2.2.1 q.2.2.2 (mx_np M') := fun host hlk =>
    va_cnB (mx_np M') hts hGI rfl rfl rfl (hNs _ hlk) (hts _ y4) ⟨y5, y6, y7⟩ hRoom
  have fin : ∀ (a : Array Value), va_Run p l e R s m args below meth c H locs st.2.2.2.2.1 st.2.2.2.2.2 q.2.2.1 q.2.2.2 (F0 m st.1 ls (st.2.2.1.map (mx_v ad))) (rest.map (mx_v ad)) (mx_Qc D cl cT ad st.2.2.2.1 H.size q a) (va_A (mx_w cT ad st.2.2.2.1) H.size) → W p l e R s m args below meth c H locs st.2.2.2.2.1 st.2.2.2.2.2 Q (F0 m st.1 ls (st.2.2.1.map (mx_v ad))) := by
    intro a hr
    refine mx_after hr h6 (mx_aF hA h5 h6) (fun ad' H1 locs1 g1 g2 g3 g4 g5 g6 => ?_)
    have eL : mx_l ad' st.2.1 = mx_l ad st.2.1 ∧ rest.map (mx_v ad') = rest.map (mx_v ad) := by
      rcases hkeep with hk | hk
      · rw [g2 hk]; exact ⟨rfl, rfl⟩
      · obtain ⟨k1, k2⟩ := Bool.and_eq_true_iff.mp hk
        obtain ⟨k0, k1⟩ := Bool.and_eq_true_iff.mp k1
        have k0 : q.2.1.length ≤ 1000 := Nat.le_of_ble_eq_true k0
        have g9 : ∀ k, k < st.2.2.2.1.length ∨ 1000 ≤ k → ad' k = ad k := fun k hk => g1 k (hk.imp id (fun z => Nat.le_trans k0 z))
        exact ⟨mx_l_ag k1 g9, mx_vs_ag k2 g9⟩
    have k0 := kk ad' H1 locs1 ls (fun k hk => by
      rcases hk with hk | hk
      · exact (g1 k (Or.inl (Nat.lt_of_lt_of_le hk h3))).trans (h1 k (Or.inl hk))
      · exact (g1 k (Or.inr hk)).trans (h1 k (Or.inr (Nat.le_trans g3 hk)))) (fun z => by
      have z1 : st.2.2.2.2.1 + q.2.2.1 = 0 := z
      rw [g2 (by omega)]; exact h2 (by omega)) (Nat.le_trans h3 g3) g4 g5 g6 (by rw [eL.1]; exact h7)
    have e9 : List.map (mx_v ad') (q.1.toList ++ rest) = (q.1.map (mx_v ad')).toList ++ rest.map (mx_v ad) := by
      rw [List.map_append, eL.2]
      congr 1
      cases q.1 <;> rfl
    rw [e9] at k0
    exact k0
  rcases hcase with ⟨rfl, hst, rfl, rfl⟩ | ⟨rfl, hst, a, fs, hdr, rfl, hw⟩ | ⟨rfl, hst, a, hdr, rfl⟩
  · rcases hlink with hlk | ⟨host, hlk⟩
    · exact fin _ (va_runS (As := (st.2.2.1.take (mx_np M')).reverse.map (mx_v ad)) (rest := (st.2.2.1.drop (mx_np M')).map (mx_v ad)) S (hM ad H.size) ⟨hB hlk, hts _ (y9 hst)⟩ hpre rfl (mx_tl hlen) h7.1 mx_td hcr hd ⟨hkc, hks⟩)
    · exact fin _ (va_runSN (As := (st.2.2.1.take (mx_np M')).reverse.map (mx_v ad)) (rest := (st.2.2.1.drop (mx_np M')).map (mx_v ad)) S (hM ad H.size) ⟨hBN host hlk, hts _ (y9 hst), trivial⟩ hpre rfl (mx_tl hlen) h7.1 mx_td hcr hd ⟨hkc, hks⟩)
  · have hstk : st.2.2.1.map (mx_v ad) = ((st.2.2.1.take (mx_np M')).reverse.map (mx_v ad)).reverse ++ .ref (ad a) :: rest.map (mx_v ad) := by
      rw [mx_td (n := mx_np M'), hdr]; rfl
    obtain ⟨i1, i2, rr, hrr, hcl⟩ := y10 hst
    have hrecv := va_recv hK h4 hrr (mx_w_at hw)
    rcases hlink with hlk | ⟨host, hlk⟩
    · exact fin _ (va_runV (C := (mx_y M').cls) (As := (st.2.2.1.take (mx_np M')).reverse.map (mx_v ad)) (rest := rest.map (mx_v ad)) S (hM ad H.size) ⟨hB hlk, hts _ i1, hts _ i2⟩ ⟨hpre.1, by rw [← hcl]; exact hrecv, hpre.2⟩ rfl (mx_tl hlen) h7.1 hstk hcr hd ⟨hkc, hks⟩)
    · exact fin _ (va_runVN (C := (mx_y M').cls) (As := (st.2.2.1.take (mx_np M')).reverse.map (mx_v ad)) (rest := rest.map (mx_v ad)) S (hM ad H.size) ⟨hBN host hlk, hts _ i1, hts _ i2⟩ ⟨hpre.1, by rw [← hcl]; exact hrecv, hpre.2⟩ rfl (mx_tl hlen) h7.1 hstk hcr hd ⟨hkc, hks⟩)
  · have hstk : st.2.2.1.map (mx_v ad) = ((st.2.2.1.take (mx_np M')).reverse.map (mx_v ad)).reverse ++ .ref (ad a) :: rest.map (mx_v ad) := by
      rw [mx_td (n := mx_np M'), hdr]; rfl
    obtain ⟨i1, i2, i3, i4⟩ := y11 hst
    rcases hlink with hlk | ⟨host, hlk⟩
    · exact fin _ (va_runI (As := (st.2.2.1.take (mx_np M')).reverse.map (mx_v ad)) (rest := rest.map (mx_v ad)) S (hM ad H.size) ⟨by rw [← i3]; exact hB hlk, i2, hts _ i1⟩ hpre rfl (mx_tl hlen) h7.1 hstk hcr hd ⟨hkc, hks⟩)
    · exact fin _ (va_runIN (As := (st.2.2.1.take (mx_np M')).reverse.map (mx_v ad)) (rest := rest.map (mx_v ad)) S (hM ad H.size) ⟨by rw [← i3]; exact hBN host hlk, i2, hts _ i1⟩ hpre rfl (mx_tl hlen) h7.1 hstk hcr hd ⟨hkc, hks⟩)
end MXD
end
section
/-! runs, and the contract of a method out of a run -/
theorem mx_kle {st st' : mx_S} (h : st'.2.2.2.2 = st.2.2.2.2) : st.2.2.2.2.1 ≤ st'.2.2.2.2.1 ∧ st.2.2.2.2.2 ≤ st'.2.2.2.2.2 := by
  rw [h]
  exact ⟨Nat.le_refl _, Nat.le_refl _⟩
theorem mx_ldi_k {n i : Nat} {st st' : mx_S} (h : mx_ldi n i st = some st') : st'.2.2.2.2 = st.2.2.2.2 := by
  unfold mx_ldi at h
  split at h
  · cases h; rfl
  · cases h
theorem mx_ldl_k {n i : Nat} {st st' : mx_S} (h : mx_ldl n i st = some st') : st'.2.2.2.2 = st.2.2.2.2 := by
  unfold mx_ldl at h
  split at h
  · cases h; rfl
  · cases h
theorem mx_lda_k {n i : Nat} {st st' : mx_S} (h : mx_lda n i st = some st') : st'.2.2.2.2 = st.2.2.2.2 := by
  unfold mx_lda at h
  split at h
  · cases h; rfl
  · cases h
theorem mx_sti_k {n i ml : Nat} {st st' : mx_S} (h : mx_sti n i ml st = some st') : st'.2.2.2.2 = st.2.2.2.2 := by
  unfold mx_sti at h
  split at h
  · have h := (mx_bif h).2; cases h; rfl
  · cases h
theorem mx_inc_k {i ml : Nat} {n : Int} {st st' : mx_S} (h : mx_inc i ml n st = some st') : st'.2.2.2.2 = st.2.2.2.2 := by
  unfold mx_inc at h
  split at h
  · have h := (mx_bif h).2; cases h; rfl
  · cases h
theorem mx_l2i_k {st st' : mx_S} (h : mx_l2i st = some st') : st'.2.2.2.2 = st.2.2.2.2 := by
  unfold mx_l2i at h
  split at h
  · cases h; rfl
  · cases h
theorem mx_dup_k {st st' : mx_S} (h : mx_dup st = some st') : st'.2.2.2.2 = st.2.2.2.2 := by
  unfold mx_dup at h
  split at h
  · have h := (mx_bif h).2; cases h; rfl
  · cases h
theorem mx_dup2_k {st st' : mx_S} (h : mx_dup2 st = some st') : st'.2.2.2.2 = st.2.2.2.2 := by
  unfold mx_dup2 at h
  split at h
  · have h := (mx_bif h).2; cases h; rfl
  · cases h
theorem mx_pop_k {st st' : mx_S} (h : mx_pop st = some st') : st'.2.2.2.2 = st.2.2.2.2 := by
  unfold mx_pop at h
  split at h
  · have h := (mx_bif h).2; cases h; rfl
  · cases h
theorem mx_if_k {c : Jvm.ClassFile.Cond} {off : Int} {st st' : mx_S} (h : mx_if c off st = some st') : st'.2.2.2.2 = st.2.2.2.2 := by
  unfold mx_if at h
  split at h
  · have h := (mx_bif h).2; cases h; rfl
  · cases h
theorem mx_cmp_k {c : Jvm.ClassFile.Cond} {off : Int} {st st' : mx_S} (h : mx_cmp c off st = some st') : st'.2.2.2.2 = st.2.2.2.2 := by
  unfold mx_cmp at h
  split at h
  · have h := (mx_bif h).2; cases h; rfl
  · cases h
theorem mx_goto_k {off : Int} {st st' : mx_S} (h : mx_goto off st = some st') : st'.2 = st.2 := by
  obtain ⟨-, rfl⟩ := mx_goto_inv h
  rfl
theorem mx_tab_k {d lo hi : Int} {offs : Array Int} {st st' : mx_S} (h : mx_tab d lo hi offs st = some st') : st'.2.2.2.2 = st.2.2.2.2 := by
  unfold mx_tab at h
  split at h
  · split at h
    · rw [mx_goto_k h]
    · split at h
      · rw [mx_goto_k h]
      · cases h
  · cases h
theorem mx_getf_k {q : Option (Nat × Nat)} {st st' : mx_S} (h : mx_getf q st = some st') : st'.2.2.2.2 = st.2.2.2.2 := by
  unfold mx_getf at h
  split at h
  · split at h
    · split at h
      · next ci _ _ _ _ _ _ _ cj _ _ _ _ _ =>
        first
          | (have h := (mx_bif h).2; cases h; rfl)
          | skip
      · cases h
    · cases h
  · cases h
theorem mx_putf_k {cl : List vw_C} {ty : Nat → Nat → FieldType} {M : mx_M} {q : Option (Nat × Nat)} {st st' : mx_S} (h : mx_putf cl ty M q st = some st') : st'.2.2.2.2 = st.2.2.2.2 := by
  unfold mx_putf at h
  split at h
  · split at h
    · have h := (mx_bif h).2
      split at h
      · have h := (mx_bif h).2; cases h; rfl
      · cases h
    · cases h
  · cases h
theorem mx_alen_k {st st' : mx_S} (h : mx_alen st = some st') : st'.2.2.2.2 = st.2.2.2.2 := by
  unfold mx_alen at h
  split at h
  · split at h
    · have h := (mx_bif h).2; cases h; rfl
    · cases h
  · cases h
theorem mx_j0_k {st st' : mx_S} (h : mx_j0 st = some st') : st'.2.2.2.2 = st.2.2.2.2 := by
  unfold mx_j0 at h
  split at h
  · have h := (mx_bif h).2; cases h; rfl
  · cases h
theorem mx_cp_k {st st' : mx_S} (h : mx_cp st = some st') : st'.2.2.2.2 = st.2.2.2.2 := by
  unfold mx_cp at h
  split at h
  · split at h
    · split at h
      · cases h; rfl
      · cases h
    · cases h
  · cases h
theorem mx_sta_k {n i ml : Nat} {st st' : mx_S} (h : mx_sta n i ml st = some st') : st'.2.2.2.2 = st.2.2.2.2 := by
  unfold mx_sta at h
  split at h
  · have h := (mx_bif h).2; cases h; rfl
  · cases h
theorem mx_i2l_k {st st' : mx_S} (h : mx_i2l st = some st') : st'.2.2.2.2 = st.2.2.2.2 := by
  unfold mx_i2l at h
  split at h
  · cases h; rfl
  · cases h
theorem mx_lcmp_k {st st' : mx_S} (h : mx_lcmp st = some st') : st'.2.2.2.2 = st.2.2.2.2 := by
  unfold mx_lcmp at h
  split at h
  · cases h; rfl
  · cases h
set_option maxHeartbeats 1000000 in
/-- what has been made grows -/
theorem mx_go_le {cl : List vw_C} {ty : Nat → Nat → FieldType} {M : mx_M} {i : Instr} {len : Nat} {st st' : mx_S} (h : mx_go cl ty M i len st = some st') : st.2.2.2.2.1 ≤ st'.2.2.2.2.1 ∧ st.2.2.2.2.2 ≤ st'.2.2.2.2.2 := by
  unfold mx_go at h
  cases hlo : mx_lok i len with
  | false => rw [hlo] at h; cases h
  | true =>
    rw [hlo] at h
    simp only [cond_true] at h
    unfold mx_stp at h
    split at h
    case h_45 => -- new
      unfold mx_newc at h
      split at h
      · split at h
        · cases hal : mx_all st with
          | false => rw [hal] at h; cases h
          | true => rw [hal] at h; cases h; exact ⟨Nat.le_add_right _ _, Nat.le_add_right _ _⟩
        · cases h
      · cases h
    case h_46 =>
      unfold mx_newa at h
      split at h
      · next pc L n r w kc ks =>
        cases hal : mx_all (pc, L, .int n :: r, w, kc, ks) with
        | false => rw [hal] at h; cases h
        | true =>
          rw [hal] at h
          simp only [cond_true] at h
          split at h
          · split at h
            · cases h; exact ⟨Nat.le_add_right _ _, Nat.le_add_right _ _⟩
            · cases h; exact ⟨Nat.le_add_right _ _, Nat.le_add_right _ _⟩
            · cases h; exact ⟨Nat.le_add_right _ _, Nat.le_add_right _ _⟩
            · cases h
          · cases h
      · cases h
    case h_1 => cases h; exact mx_kle rfl
    case h_2 => have h := (mx_bif h).2; cases h; exact mx_kle rfl
    case h_3 => have h := (mx_bif h).2; cases h; exact mx_kle rfl
    case h_4 => obtain ⟨v, -, h⟩ := mx_bind h; cases h; exact mx_kle rfl
    case h_5 => obtain ⟨v, -, h⟩ := mx_bind h; cases h; exact mx_kle rfl
    case h_6 => obtain ⟨v, -, h⟩ := mx_bind h; cases h; exact mx_kle rfl
    case h_7 => exact mx_kle (mx_ldi_k h)
    case h_8 => exact mx_kle (mx_ldi_k h)
    case h_9 => exact mx_kle (mx_ldl_k h)
    case h_10 => exact mx_kle (mx_ldl_k h)
    case h_11 => exact mx_kle (mx_lda_k h)
    case h_12 => exact mx_kle (mx_lda_k h)
    case h_13 => exact mx_kle (mx_sti_k h)
    case h_14 => exact mx_kle (mx_sti_k h)
    case h_15 => exact mx_kle (mx_inc_k h)
    case h_25 => obtain ⟨_, _, _, _, _, _, rfl, rfl, -⟩ := mx_dv_inv h; exact mx_kle rfl
    case h_26 => obtain ⟨_, _, _, _, _, _, rfl, rfl, -⟩ := mx_dv_inv h; exact mx_kle rfl
    case h_27 => obtain ⟨_, _, _, _, _, _, rfl, rfl⟩ := mx_i2_inv h; exact mx_kle rfl
    case h_28 => obtain ⟨_, _, _, _, _, _, rfl, rfl⟩ := mx_ls_inv h; exact mx_kle rfl
    case h_29 => obtain ⟨_, _, _, _, _, _, rfl, rfl⟩ := mx_ls_inv h; exact mx_kle rfl
    case h_30 => exact mx_kle (mx_l2i_k h)
    case h_31 => exact mx_kle (mx_dup_k h)
    case h_32 => exact mx_kle (mx_dup2_k h)
    case h_33 => exact mx_kle (mx_pop_k h)
    case h_34 => exact mx_kle (by rw [mx_goto_k h])
    case h_35 => exact mx_kle (mx_if_k h)
    case h_36 => exact mx_kle (mx_cmp_k h)
    case h_37 => exact mx_kle (mx_tab_k h)
    case h_38 => exact mx_kle (mx_getf_k h)
    case h_39 => exact mx_kle (mx_putf_k h)
    case h_40 => exact mx_kle (mx_alen_k h)
    case h_41 => obtain ⟨_, _, _, _, _, _, _, _, _, rfl, -, -, rfl⟩ := mx_ald_inv h; exact mx_kle rfl
    case h_42 => obtain ⟨_, _, _, _, _, _, _, _, _, _, rfl, -, -, rfl⟩ := mx_ast_inv h; exact mx_kle rfl
    case h_43 => obtain ⟨_, _, _, _, _, _, _, _, _, rfl, -, -, rfl⟩ := mx_ald_inv h; exact mx_kle rfl
    case h_44 => obtain ⟨_, _, _, _, _, _, _, _, _, _, rfl, -, -, rfl⟩ := mx_ast_inv h; exact mx_kle rfl
    case h_47 =>
      obtain ⟨n, -, h⟩ := mx_bind h
      exact mx_kle (mx_j0_k (mx_bif h).2)
    case h_48 =>
      obtain ⟨n, -, h⟩ := mx_bind h
      have h := (mx_bif h).2
      unfold mx_jdk at h
      split at h
      · obtain ⟨_, _, _, _, _, _, rfl, rfl, -⟩ := mx_mm_inv h; exact mx_kle rfl
      · obtain ⟨_, _, _, _, _, _, rfl, rfl, -⟩ := mx_mm_inv h; exact mx_kle rfl
      · exact mx_kle (mx_cp_k h)
      · cases h
    case h_49 => exact mx_kle (mx_sta_k h)
    case h_50 => exact mx_kle (mx_sta_k h)
    case h_51 => exact mx_kle (mx_i2l_k h)
    case h_52 => exact mx_kle (mx_lcmp_k h)
    case h_53 => obtain ⟨_, _, _, _, _, _, rfl, rfl⟩ := mx_i2_inv h; exact mx_kle rfl
    case h_54 => obtain ⟨_, _, _, _, _, _, rfl, rfl⟩ := mx_ls_inv h; exact mx_kle rfl
    case h_55 => obtain ⟨_, _, _, _, _, _, _, _, _, rfl, -, -, rfl⟩ := mx_lald_inv h; exact mx_kle rfl
    case h_56 => obtain ⟨_, _, _, _, _, _, _, _, _, _, rfl, -, -, rfl⟩ := mx_last_inv h; exact mx_kle rfl
    case h_57 => cases h
    all_goals (obtain ⟨_, _, _, _, _, _, rfl, rfl⟩ := mx_ii_inv h; exact mx_kle rfl)
end
section
/-! a run of the small machine gives the method's contract -/
theorem mx_end_k {M : mx_M} {i : Instr} {st : mx_S} {r : mx_A} (h : mx_end M i st = some r) : r.2 = st.2.2.2 := by
  unfold mx_end at h
  split at h
  · cases h; rfl
  · split at h
    · cases h; rfl
    · cases h
  · cases h; rfl
  · cases h
theorem mx_R_le2 {cl : List vw_C} {ty : Nat → Nat → FieldType} {MT : Nat → Option mx_M} : ∀ (f : Nat) (mi : Nat) (st : mx_S) (r : mx_A), mx_R cl ty MT f mi st r → st.2.2.2.2.1 ≤ r.2.2.1 ∧ st.2.2.2.2.2 ≤ r.2.2.2 := by
  intro f
  induction f with
  | zero => intro mi st r h; exact h.elim
  | succ f ih =>
    intro mi st r h
    obtain ⟨M, i, len, h1, h2, h3⟩ := h
    rcases h3 with ⟨-, h3⟩ | ⟨st', h3, h4⟩ | ⟨h3, n, M', av, rest, q, h4, h8, h5, h6, h7⟩
    · rw [mx_end_k h3]; exact ⟨Nat.le_refl _, Nat.le_refl _⟩
    · obtain ⟨a1, a2⟩ := mx_go_le h3
      obtain ⟨b1, b2⟩ := ih _ _ _ h4
      exact ⟨Nat.le_trans a1 b1, Nat.le_trans a2 b2⟩
    · obtain ⟨b1, b2⟩ := ih _ _ _ h7
      exact ⟨Nat.le_trans (Nat.le_add_right _ _) b1, Nat.le_trans (Nat.le_add_right _ _) b2⟩
section MXE
variable {p : Program} {l : Launch} {e : Env} {R : Room} {s : State} {m : MethodId} {args : Array Value} {below : List Frame} {meth : Method} {c : Code}
variable {D : va_G} {cl : List vw_C} {cT : Nat → ClassId} {ad0 : Nat → Nat} {ty : Nat → Nat → FieldType} {GT NW : List Jvm.Cond} {MT : Nat → Option mx_M} {M : mx_M} {w0 : mx_W}
theorem mx_end_ok (F : mx_F p R s m args meth c D cl cT (va_A (mx_w cT ad0 w0) s.heap.size) ty GT NW MT M) (hr : meth.sig.returnType = mx_ret M) (hlocks : meth.locks = false) {i : Instr} {st : mx_S} {r : mx_A} (hd : decode (mx_cc M) st.1 = .ok (i, 1)) (h : mx_end M i st = some r) :
    mx_G p l e R s m args below meth c (MQ below (mx_Qc D cl cT ad0 w0 s.heap.size r) args s r.2.2.1 r.2.2.2 (va_A (mx_w cT ad0 w0) s.heap.size)) D cl cT (va_A (mx_w cT ad0 w0) s.heap.size) (mx_ml M) w0.length ad0 st := by
  obtain ⟨hx, hb, hml, hown, hts, hnm, hK, hA, hC, hJ, hL, hR, hY⟩ := F
  unfold mx_end at h
  split at h
  · next pc L v k hret =>
    cases h
    intro ad H locs ls h1 h2 h3 h4 h5 h6 h7
    exact W.iret hx hb (hr.trans hret) (fun t ht hW => ⟨⟨ad, h1, h2, h3, rfl, by rw [ht]; exact h4, h5⟩, h6.F ht⟩) h6.2.2 hd
  · next pc L v k hret =>
    split at h
    · next hv =>
      cases h
      intro ad H locs ls h1 h2 h3 h4 h5 h6 h7
      exact W.zret hx hb (hr.trans hret) (by rcases hv with rfl | rfl <;> rfl) (fun t ht hW => ⟨⟨ad, h1, h2, h3, rfl, by rw [ht]; exact h4, h5⟩, h6.F ht⟩) h6.2.2 hd
    · cases h
  · next pc L k hret =>
    cases h
    intro ad H locs ls h1 h2 h3 h4 h5 h6 h7
    exact W.vret hx hb (hr.trans hret) (fun t ht hW => ⟨⟨ad, h1, h2, h3, rfl, by rw [ht]; exact h4, h5⟩, h6.F ht⟩) h6.2.2 hd
  · cases h
theorem mx_run_ok (F : mx_F p R s m args meth c D cl cT (va_A (mx_w cT ad0 w0) s.heap.size) ty GT NW MT M) (hG : mx_good GT) (hN : mx_nest NW) (hNs : ∀ z ∈ NW, va_Nw z s) (hYs : ∀ n M', MT n = some M' → mx_okY cl GT M') (hr : meth.sig.returnType = mx_ret M) (hlocks : meth.locks = false) {mi : Nat} (hmi : MT mi = some M) (hRf : mx_rk M ≤ R.frames) (hRl : 256 * mx_rk M ≤ R.locals)
    (ih : ∀ (n : Nat) (M' : mx_M), MT n = some M' → mx_rk M' < mx_rk M → ∀ (f : Nat) (av : List Value) (w : mx_W) (q : mx_A), mx_R cl ty MT f n (0, lv_args 0 av, [], w, 0, 0) q → mx_cs av ≤ mx_ml M' → ∀ (ad : Nat → Nat) (sz : Nat), Met l (mx_y M') (mx_ws GT M') (mx_rm M' q) (mx_Pc D cl cT NW ad av w sz) (mx_Qc D cl cT ad w sz q) q.2.2.1 q.2.2.2 (va_A (mx_w cT ad w) sz)) :
    ∀ (f : Nat) (st : mx_S) (r : mx_A), mx_R cl ty MT f mi st r → r.2.2.1 ≤ R.cells → r.2.2.2 ≤ R.slots →
      mx_G p l e R s m args below meth c (MQ below (mx_Qc D cl cT ad0 w0 s.heap.size r) args s r.2.2.1 r.2.2.2 (va_A (mx_w cT ad0 w0) s.heap.size)) D cl cT (va_A (mx_w cT ad0 w0) s.heap.size) (mx_ml M) w0.length ad0 st := by
  intro f
  induction f with
  | zero => intro st r h; exact h.elim
  | succ f ihf =>
    intro st r h hkc hks
    have hle := mx_R_le2 _ _ _ _ h
    obtain ⟨M1, i, len, h1, h2, h3⟩ := h
    have hM1 : M1 = M := Option.some.inj (h1.symm.trans hmi)
    subst hM1
    rcases h3 with ⟨rfl, h3⟩ | ⟨st', h3, h4⟩ | ⟨rfl, n, M', av, rest, q, h4, h8, h5, h6, h7⟩
    · exact mx_end_ok F hr hlocks h2 h3
    · have hle' := mx_R_le2 _ _ _ _ h4
      exact mx_go_ok F h2 h3 (Nat.le_trans hle.1 hkc) (Nat.le_trans hle.2 hks) (Nat.le_trans hle'.1 hkc) (Nat.le_trans hle'.2 hks) (ihf st' r h4 hkc hks)
    · have hle' := mx_R_le2 _ _ _ _ h7
      obtain ⟨x, c1, c2, c3, -⟩ := mx_cal_inv h4
      exact mx_call_ok F hG hN hNs (hYs _ _ c2) h2 h4 (fun ad sz => ih n M' c2 c3 f av _ q h5 (Nat.le_of_ble_eq_true h8) ad sz) hRf hRl (Nat.le_trans hle'.1 hkc) (Nat.le_trans hle'.2 hks) h6 (ihf _ r h7 hkc hks)
end MXE
/-- what is decided once of the tables -/
def mx_tab_ok0 (cl : List vw_C) (ty : Nat → Nat → FieldType) (GT NW : List Jvm.Cond) (MT : Nat → Option mx_M) : Prop := (∀ ci r, cl[ci]? = some r → mx_okC GT ty ci r) ∧ mx_okJ GT ∧ mx_good GT ∧ mx_nest NW ∧ (∀ n M, MT n = some M → mx_okL cl GT NW MT M ∧ mx_okY cl GT M)
/-- THE CONTRACT OUT OF A RUN -/
theorem mx_sound {cl : List vw_C} {ty : Nat → Nat → FieldType} {GT NW : List Jvm.Cond} {MT : Nat → Option mx_M} (T : mx_tab_ok0 cl ty GT NW MT) (l : Launch) (D : va_G) (cT : Nat → ClassId) : ∀ (k : Nat) (n : Nat) (M : mx_M), MT n = some M → mx_rk M < k → ∀ (f : Nat) (av : List Value) (w : mx_W) (q : mx_A), mx_R cl ty MT f n (0, lv_args 0 av, [], w, 0, 0) q → mx_cs av ≤ mx_ml M → ∀ (ad : Nat → Nat) (sz : Nat),
    Met l (mx_y M) (mx_ws GT M) (mx_rm M q) (mx_Pc D cl cT NW ad av w sz) (mx_Qc D cl cT ad w sz q) q.2.2.1 q.2.2.2 (va_A (mx_w cT ad w) sz) := by
  obtain ⟨t1, t2, t3, t4, t5⟩ := T
  intro k
  induction k with
  | zero => intro n M hM hk; omega
  | succ k ih =>
    intro n M hM hk f av w q hR hav ad sz
    have hY := (t5 n M hM).2
    refine Met.ofW (cc := mx_cc M) (maxL := mx_ml M) (ret := mx_ret M) hY.1 rfl ?_
    intro p e s m args below meth c s₁ B hml hv
    obtain ⟨rfl, hsz, hP, hK, hD0, hNs⟩ := hv
    have hx := B.exec
    have hb := B.bytes
    have hr := B.returns
    have hts0 := atoms_spec (ws := mx_ws GT M) B.pre
    have hts : ∀ z ∈ GT, z.before (av.map (mx_v ad)).toArray s = true := fun z hz => hts0 z (List.mem_cons_of_mem _ hz)
    have hown0 : s.vm.findClass (mx_y M).cls = some m.cls := findClass_of_methodNamed B.named
    have hown : s.vm.findClass (mx_own M) = some m.cls := by rw [hY.2.1]; exact hown0
    have hlocks := B.notSynchronized
    have hnm : meth.name = (mx_y M).name := (name_of_methodNamed B.named B.method).1
    subst hsz
    have hD := hD0.self (sz := s.heap.size)
    have hA : ∀ q : Nat, s.heap.size ≤ q → va_A (mx_w cT ad w) s.heap.size q := fun q h => Or.inr h
    have hl := lv_entry (av.map (mx_v ad)) (n := mx_ml M) (by rw [mx_slen, mx_cs_map]; exact hav)
    rw [lg_entry_eq]
    generalize (lg_sl (av.map (mx_v ad)) ++ List.replicate (mx_ml M - (lg_sl (av.map (mx_v ad))).length) Slot.unset).toArray = ls at hl ⊢
    rw [mx_largs] at hl
    have F : mx_F p (mx_rm M q) s m (av.map (mx_v ad)).toArray meth c D cl cT (va_A (mx_w cT ad w) s.heap.size) ty GT NW MT M := ⟨hx, hb, hml, hown, hts, fun _ => hnm, hK, hA, t1, t2, (t5 n M hM).1, fun h => ⟨h, by show 128 ≤ 256 * mx_rk M; omega⟩, fun h => by
      obtain ⟨-, z2, -, rr, z4, z5⟩ := hY.2.2.2.2.2.2.2.2.2.2 h
      exact ⟨z2, rr, z4, z5.trans hY.2.1.symm⟩⟩
    exact mx_run_ok F t3 t4 hNs (fun n' M' h' => (t5 n' M' h').2) hr hlocks hM (Nat.le_refl _) (Nat.le_refl _) (fun n' M' h1 h2 f' av' w' q' h3 h4 ad' sz' => ih n' M' h1 (by omega) f' av' w' q' h3 h4 ad' sz') f _ q hR (Nat.le_refl _) (Nat.le_refl _) ad s.heap [] ls (fun _ _ => rfl) (fun _ => rfl) (Nat.le_refl _) hP hD va_S.rf hl
end
section
-- ===== PART A: goes FIRST, ahead of the names: the tables' words, and 'selects' of the private methods out of them =====
/-- a private method of a class that the tables say can be made, by its rows of tables_1 -/
def lw_okq (q : MethodName × Nat) : Prop := (q.1.cls ≠ "java/lang/invoke/MethodHandle" ∧ q.1.cls ≠ "java/lang/invoke/VarHandle") ∧ Cond.instantiable q.1.cls q.2 ∈ tables_1 ∧ Cond.privateMethod q.1 ∈ tables_1 ∧ Cond.instanceMethod q.1 ∈ tables_1
theorem lw_p0 : lw_okq (⟨"PackDisk", "isOpen", "()Z"⟩, 14) := ⟨⟨by decide +kernel, by decide +kernel⟩, List.mem_of_getElem? (i := 18) (by decide +kernel), List.mem_of_getElem? (i := 154) (by decide +kernel), List.mem_of_getElem? (i := 155) (by decide +kernel)⟩
theorem lw_p1 : lw_okq (⟨"PackDisk", "sectorsLeft", "()I"⟩, 14) := ⟨⟨by decide +kernel, by decide +kernel⟩, List.mem_of_getElem? (i := 18) (by decide +kernel), List.mem_of_getElem? (i := 158) (by decide +kernel), List.mem_of_getElem? (i := 159) (by decide +kernel)⟩
theorem lw_p2 : lw_okq (⟨"PackDisk", "placeOpenBlock", "(I)I"⟩, 14) := ⟨⟨by decide +kernel, by decide +kernel⟩, List.mem_of_getElem? (i := 18) (by decide +kernel), List.mem_of_getElem? (i := 181) (by decide +kernel), List.mem_of_getElem? (i := 182) (by decide +kernel)⟩
theorem lw_p3 : lw_okq (⟨"PackDisk", "findDraftedBlock", "()I"⟩, 14) := ⟨⟨by decide +kernel, by decide +kernel⟩, List.mem_of_getElem? (i := 18) (by decide +kernel), List.mem_of_getElem? (i := 194) (by decide +kernel), List.mem_of_getElem? (i := 195) (by decide +kernel)⟩
theorem lw_p4 : lw_okq (⟨"PackDisk", "isBlock", "(I)Z"⟩, 14) := ⟨⟨by decide +kernel, by decide +kernel⟩, List.mem_of_getElem? (i := 18) (by decide +kernel), List.mem_of_getElem? (i := 198) (by decide +kernel), List.mem_of_getElem? (i := 199) (by decide +kernel)⟩
theorem lw_p5 : lw_okq (⟨"PackDisk", "isInLog", "(I)Z"⟩, 14) := ⟨⟨by decide +kernel, by decide +kernel⟩, List.mem_of_getElem? (i := 18) (by decide +kernel), List.mem_of_getElem? (i := 202) (by decide +kernel), List.mem_of_getElem? (i := 203) (by decide +kernel)⟩
theorem lw_p6 : lw_okq (⟨"PackDisk", "writeNext", "()I"⟩, 14) := ⟨⟨by decide +kernel, by decide +kernel⟩, List.mem_of_getElem? (i := 18) (by decide +kernel), List.mem_of_getElem? (i := 226) (by decide +kernel), List.mem_of_getElem? (i := 227) (by decide +kernel)⟩
theorem lw_p7 : lw_okq (⟨"PackDisk$Sectors", "judge", "(I)V"⟩, 4) := ⟨⟨by decide +kernel, by decide +kernel⟩, List.mem_of_getElem? (i := 26) (by decide +kernel), List.mem_of_getElem? (i := 258) (by decide +kernel), List.mem_of_getElem? (i := 259) (by decide +kernel)⟩
theorem lw_p8 : lw_okq (⟨"PackDisk", "isRowNumber", "(I)Z"⟩, 14) := ⟨⟨by decide +kernel, by decide +kernel⟩, List.mem_of_getElem? (i := 18) (by decide +kernel), List.mem_of_getElem? (i := 267) (by decide +kernel), List.mem_of_getElem? (i := 268) (by decide +kernel)⟩
theorem lw_p9 : lw_okq (⟨"PackDisk", "findRow", "(I)I"⟩, 14) := ⟨⟨by decide +kernel, by decide +kernel⟩, List.mem_of_getElem? (i := 18) (by decide +kernel), List.mem_of_getElem? (i := 271) (by decide +kernel), List.mem_of_getElem? (i := 272) (by decide +kernel)⟩
theorem lw_p10 : lw_okq (⟨"PackDisk", "lengthOfRow", "(I)I"⟩, 14) := ⟨⟨by decide +kernel, by decide +kernel⟩, List.mem_of_getElem? (i := 18) (by decide +kernel), List.mem_of_getElem? (i := 276) (by decide +kernel), List.mem_of_getElem? (i := 277) (by decide +kernel)⟩
theorem lw_p11 : lw_okq (⟨"PackDisk", "countMissing", "(I)I"⟩, 14) := ⟨⟨by decide +kernel, by decide +kernel⟩, List.mem_of_getElem? (i := 18) (by decide +kernel), List.mem_of_getElem? (i := 280) (by decide +kernel), List.mem_of_getElem? (i := 281) (by decide +kernel)⟩
theorem lw_p12 : lw_okq (⟨"PackDisk", "blocksOfRow", "(I)I"⟩, 14) := ⟨⟨by decide +kernel, by decide +kernel⟩, List.mem_of_getElem? (i := 18) (by decide +kernel), List.mem_of_getElem? (i := 284) (by decide +kernel), List.mem_of_getElem? (i := 285) (by decide +kernel)⟩
theorem lw_p13 : lw_okq (⟨"PackDisk", "writeSymbol", "(III)I"⟩, 14) := ⟨⟨by decide +kernel, by decide +kernel⟩, List.mem_of_getElem? (i := 18) (by decide +kernel), List.mem_of_getElem? (i := 292) (by decide +kernel), List.mem_of_getElem? (i := 293) (by decide +kernel)⟩
theorem lw_p14 : lw_okq (⟨"PackDisk", "symbolByte", "(III)I"⟩, 14) := ⟨⟨by decide +kernel, by decide +kernel⟩, List.mem_of_getElem? (i := 18) (by decide +kernel), List.mem_of_getElem? (i := 296) (by decide +kernel), List.mem_of_getElem? (i := 297) (by decide +kernel)⟩
theorem lw_p15 : lw_okq (⟨"PackDisk", "draftHead", "(I)V"⟩, 14) := ⟨⟨by decide +kernel, by decide +kernel⟩, List.mem_of_getElem? (i := 18) (by decide +kernel), List.mem_of_getElem? (i := 307) (by decide +kernel), List.mem_of_getElem? (i := 308) (by decide +kernel)⟩
def lw_privs_1 : List (MethodName × Nat) := [(⟨"PackDisk", "isOpen", "()Z"⟩, 14), (⟨"PackDisk", "sectorsLeft", "()I"⟩, 14), (⟨"PackDisk", "placeOpenBlock", "(I)I"⟩, 14), (⟨"PackDisk", "findDraftedBlock", "()I"⟩, 14), (⟨"PackDisk", "isBlock", "(I)Z"⟩, 14), (⟨"PackDisk", "isInLog", "(I)Z"⟩, 14), (⟨"PackDisk", "writeNext", "()I"⟩, 14), (⟨"PackDisk$Sectors", "judge", "(I)V"⟩, 4), (⟨"PackDisk", "isRowNumber", "(I)Z"⟩, 14), (⟨"PackDisk", "findRow", "(I)I"⟩, 14), (⟨"PackDisk", "lengthOfRow", "(I)I"⟩, 14), (⟨"PackDisk", "countMissing", "(I)I"⟩, 14), (⟨"PackDisk", "blocksOfRow", "(I)I"⟩, 14), (⟨"PackDisk", "writeSymbol", "(III)I"⟩, 14), (⟨"PackDisk", "symbolByte", "(III)I"⟩, 14), (⟨"PackDisk", "draftHead", "(I)V"⟩, 14)]
theorem lw_r1 : ∀ q ∈ lw_privs_1, lw_okq q := List.forall_mem_cons.mpr ⟨lw_p0, List.forall_mem_cons.mpr ⟨lw_p1, List.forall_mem_cons.mpr ⟨lw_p2, List.forall_mem_cons.mpr ⟨lw_p3, List.forall_mem_cons.mpr ⟨lw_p4, List.forall_mem_cons.mpr ⟨lw_p5, List.forall_mem_cons.mpr ⟨lw_p6, List.forall_mem_cons.mpr ⟨lw_p7, List.forall_mem_cons.mpr ⟨lw_p8, List.forall_mem_cons.mpr ⟨lw_p9, List.forall_mem_cons.mpr ⟨lw_p10, List.forall_mem_cons.mpr ⟨lw_p11, List.forall_mem_cons.mpr ⟨lw_p12, List.forall_mem_cons.mpr ⟨lw_p13, List.forall_mem_cons.mpr ⟨lw_p14, List.forall_mem_cons.mpr ⟨lw_p15, fun _ h => absurd h List.not_mem_nil⟩⟩⟩⟩⟩⟩⟩⟩⟩⟩⟩⟩⟩⟩⟩⟩
theorem lw_p16 : lw_okq (⟨"PackDisk", "tearHead", "(I)V"⟩, 14) := ⟨⟨by decide +kernel, by decide +kernel⟩, List.mem_of_getElem? (i := 18) (by decide +kernel), List.mem_of_getElem? (i := 326) (by decide +kernel), List.mem_of_getElem? (i := 327) (by decide +kernel)⟩
theorem lw_p17 : lw_okq (⟨"PackDisk", "readHead", "()V"⟩, 14) := ⟨⟨by decide +kernel, by decide +kernel⟩, List.mem_of_getElem? (i := 18) (by decide +kernel), List.mem_of_getElem? (i := 346) (by decide +kernel), List.mem_of_getElem? (i := 347) (by decide +kernel)⟩
theorem lw_p18 : lw_okq (⟨"PackDisk", "chooseHead", "()I"⟩, 14) := ⟨⟨by decide +kernel, by decide +kernel⟩, List.mem_of_getElem? (i := 18) (by decide +kernel), List.mem_of_getElem? (i := 350) (by decide +kernel), List.mem_of_getElem? (i := 351) (by decide +kernel)⟩
theorem lw_p19 : lw_okq (⟨"PackDisk", "isHead", "(I)Z"⟩, 14) := ⟨⟨by decide +kernel, by decide +kernel⟩, List.mem_of_getElem? (i := 18) (by decide +kernel), List.mem_of_getElem? (i := 354) (by decide +kernel), List.mem_of_getElem? (i := 355) (by decide +kernel)⟩
theorem lw_p20 : lw_okq (⟨"PackDisk", "generationIn", "(I)I"⟩, 14) := ⟨⟨by decide +kernel, by decide +kernel⟩, List.mem_of_getElem? (i := 18) (by decide +kernel), List.mem_of_getElem? (i := 358) (by decide +kernel), List.mem_of_getElem? (i := 359) (by decide +kernel)⟩
theorem lw_p21 : lw_okq (⟨"PackDisk", "extendLog", "()V"⟩, 14) := ⟨⟨by decide +kernel, by decide +kernel⟩, List.mem_of_getElem? (i := 18) (by decide +kernel), List.mem_of_getElem? (i := 362) (by decide +kernel), List.mem_of_getElem? (i := 363) (by decide +kernel)⟩
theorem lw_p22 : lw_okq (⟨"PackDisk", "countRows", "()V"⟩, 14) := ⟨⟨by decide +kernel, by decide +kernel⟩, List.mem_of_getElem? (i := 18) (by decide +kernel), List.mem_of_getElem? (i := 366) (by decide +kernel), List.mem_of_getElem? (i := 367) (by decide +kernel)⟩
theorem lw_p23 : lw_okq (⟨"PackDisk", "repairAll", "()V"⟩, 14) := ⟨⟨by decide +kernel, by decide +kernel⟩, List.mem_of_getElem? (i := 18) (by decide +kernel), List.mem_of_getElem? (i := 370) (by decide +kernel), List.mem_of_getElem? (i := 371) (by decide +kernel)⟩
theorem lw_p24 : lw_okq (⟨"PackDisk", "repairRow", "(I)V"⟩, 14) := ⟨⟨by decide +kernel, by decide +kernel⟩, List.mem_of_getElem? (i := 18) (by decide +kernel), List.mem_of_getElem? (i := 374) (by decide +kernel), List.mem_of_getElem? (i := 375) (by decide +kernel)⟩
theorem lw_p25 : lw_okq (⟨"PackDisk", "collectGaps", "(I)Z"⟩, 14) := ⟨⟨by decide +kernel, by decide +kernel⟩, List.mem_of_getElem? (i := 18) (by decide +kernel), List.mem_of_getElem? (i := 378) (by decide +kernel), List.mem_of_getElem? (i := 379) (by decide +kernel)⟩
theorem lw_p26 : lw_okq (⟨"PackDisk", "findSymbol", "(II)I"⟩, 14) := ⟨⟨by decide +kernel, by decide +kernel⟩, List.mem_of_getElem? (i := 18) (by decide +kernel), List.mem_of_getElem? (i := 395) (by decide +kernel), List.mem_of_getElem? (i := 396) (by decide +kernel)⟩
theorem lw_p27 : lw_okq (⟨"PackDisk", "fillGaps", "()V"⟩, 14) := ⟨⟨by decide +kernel, by decide +kernel⟩, List.mem_of_getElem? (i := 18) (by decide +kernel), List.mem_of_getElem? (i := 415) (by decide +kernel), List.mem_of_getElem? (i := 416) (by decide +kernel)⟩
theorem lw_p28 : lw_okq (⟨"PackDisk", "isHurt", "(I)Z"⟩, 14) := ⟨⟨by decide +kernel, by decide +kernel⟩, List.mem_of_getElem? (i := 18) (by decide +kernel), List.mem_of_getElem? (i := 461) (by decide +kernel), List.mem_of_getElem? (i := 462) (by decide +kernel)⟩
theorem lw_p29 : lw_okq (⟨"java/lang/Throwable", "fillInStackTrace", "(I)Ljava/lang/Throwable;"⟩, 6) := ⟨⟨by decide +kernel, by decide +kernel⟩, List.mem_of_getElem? (i := 507) (by decide +kernel), List.mem_of_getElem? (i := 505) (by decide +kernel), List.mem_of_getElem? (i := 506) (by decide +kernel)⟩
theorem lw_p30 : lw_okq (⟨"PackDiskModel", "blockFor", "(I)I"⟩, 27) := ⟨⟨by decide +kernel, by decide +kernel⟩, List.mem_of_getElem? (i := 560) (by decide +kernel), List.mem_of_getElem? (i := 664) (by decide +kernel), List.mem_of_getElem? (i := 665) (by decide +kernel)⟩
theorem lw_p31 : lw_okq (⟨"PackDiskModel", "begin", "(IIII)V"⟩, 27) := ⟨⟨by decide +kernel, by decide +kernel⟩, List.mem_of_getElem? (i := 560) (by decide +kernel), List.mem_of_getElem? (i := 668) (by decide +kernel), List.mem_of_getElem? (i := 669) (by decide +kernel)⟩
def lw_privs_2 : List (MethodName × Nat) := [(⟨"PackDisk", "tearHead", "(I)V"⟩, 14), (⟨"PackDisk", "readHead", "()V"⟩, 14), (⟨"PackDisk", "chooseHead", "()I"⟩, 14), (⟨"PackDisk", "isHead", "(I)Z"⟩, 14), (⟨"PackDisk", "generationIn", "(I)I"⟩, 14), (⟨"PackDisk", "extendLog", "()V"⟩, 14), (⟨"PackDisk", "countRows", "()V"⟩, 14), (⟨"PackDisk", "repairAll", "()V"⟩, 14), (⟨"PackDisk", "repairRow", "(I)V"⟩, 14), (⟨"PackDisk", "collectGaps", "(I)Z"⟩, 14), (⟨"PackDisk", "findSymbol", "(II)I"⟩, 14), (⟨"PackDisk", "fillGaps", "()V"⟩, 14), (⟨"PackDisk", "isHurt", "(I)Z"⟩, 14), (⟨"java/lang/Throwable", "fillInStackTrace", "(I)Ljava/lang/Throwable;"⟩, 6), (⟨"PackDiskModel", "blockFor", "(I)I"⟩, 27), (⟨"PackDiskModel", "begin", "(IIII)V"⟩, 27)]
theorem lw_r2 : ∀ q ∈ lw_privs_2, lw_okq q := List.forall_mem_cons.mpr ⟨lw_p16, List.forall_mem_cons.mpr ⟨lw_p17, List.forall_mem_cons.mpr ⟨lw_p18, List.forall_mem_cons.mpr ⟨lw_p19, List.forall_mem_cons.mpr ⟨lw_p20, List.forall_mem_cons.mpr ⟨lw_p21, List.forall_mem_cons.mpr ⟨lw_p22, List.forall_mem_cons.mpr ⟨lw_p23, List.forall_mem_cons.mpr ⟨lw_p24, List.forall_mem_cons.mpr ⟨lw_p25, List.forall_mem_cons.mpr ⟨lw_p26, List.forall_mem_cons.mpr ⟨lw_p27, List.forall_mem_cons.mpr ⟨lw_p28, List.forall_mem_cons.mpr ⟨lw_p29, List.forall_mem_cons.mpr ⟨lw_p30, List.forall_mem_cons.mpr ⟨lw_p31, fun _ h => absurd h List.not_mem_nil⟩⟩⟩⟩⟩⟩⟩⟩⟩⟩⟩⟩⟩⟩⟩⟩
theorem lw_p32 : lw_okq (⟨"PackDiskModel", "sortOf", "(I)I"⟩, 27) := ⟨⟨by decide +kernel, by decide +kernel⟩, List.mem_of_getElem? (i := 560) (by decide +kernel), List.mem_of_getElem? (i := 672) (by decide +kernel), List.mem_of_getElem? (i := 673) (by decide +kernel)⟩
theorem lw_p33 : lw_okq (⟨"PackDiskModel", "append", "()I"⟩, 27) := ⟨⟨by decide +kernel, by decide +kernel⟩, List.mem_of_getElem? (i := 560) (by decide +kernel), List.mem_of_getElem? (i := 680) (by decide +kernel), List.mem_of_getElem? (i := 681) (by decide +kernel)⟩
theorem lw_p34 : lw_okq (⟨"PackDiskModel", "write", "(I)V"⟩, 27) := ⟨⟨by decide +kernel, by decide +kernel⟩, List.mem_of_getElem? (i := 560) (by decide +kernel), List.mem_of_getElem? (i := 684) (by decide +kernel), List.mem_of_getElem? (i := 685) (by decide +kernel)⟩
theorem lw_p35 : lw_okq (⟨"PackDiskModel", "seal", "()V"⟩, 27) := ⟨⟨by decide +kernel, by decide +kernel⟩, List.mem_of_getElem? (i := 560) (by decide +kernel), List.mem_of_getElem? (i := 688) (by decide +kernel), List.mem_of_getElem? (i := 689) (by decide +kernel)⟩
theorem lw_p36 : lw_okq (⟨"PackDiskModel", "isRow", "(I)Z"⟩, 27) := ⟨⟨by decide +kernel, by decide +kernel⟩, List.mem_of_getElem? (i := 560) (by decide +kernel), List.mem_of_getElem? (i := 696) (by decide +kernel), List.mem_of_getElem? (i := 697) (by decide +kernel)⟩
theorem lw_p37 : lw_okq (⟨"PackDiskModel", "sectorOf", "(I)I"⟩, 27) := ⟨⟨by decide +kernel, by decide +kernel⟩, List.mem_of_getElem? (i := 560) (by decide +kernel), List.mem_of_getElem? (i := 700) (by decide +kernel), List.mem_of_getElem? (i := 701) (by decide +kernel)⟩
theorem lw_p38 : lw_okq (⟨"PackDiskModel", "missingAt", "(I)I"⟩, 27) := ⟨⟨by decide +kernel, by decide +kernel⟩, List.mem_of_getElem? (i := 560) (by decide +kernel), List.mem_of_getElem? (i := 704) (by decide +kernel), List.mem_of_getElem? (i := 705) (by decide +kernel)⟩
theorem lw_p39 : lw_okq (⟨"PackDiskModel", "blocksAt", "(I)I"⟩, 27) := ⟨⟨by decide +kernel, by decide +kernel⟩, List.mem_of_getElem? (i := 560) (by decide +kernel), List.mem_of_getElem? (i := 708) (by decide +kernel), List.mem_of_getElem? (i := 709) (by decide +kernel)⟩
theorem lw_p40 : lw_okq (⟨"PackDiskModel", "sizeAt", "(I)I"⟩, 27) := ⟨⟨by decide +kernel, by decide +kernel⟩, List.mem_of_getElem? (i := 560) (by decide +kernel), List.mem_of_getElem? (i := 712) (by decide +kernel), List.mem_of_getElem? (i := 713) (by decide +kernel)⟩
theorem lw_p41 : lw_okq (⟨"PackDiskModel", "blockAt", "(II)I"⟩, 27) := ⟨⟨by decide +kernel, by decide +kernel⟩, List.mem_of_getElem? (i := 560) (by decide +kernel), List.mem_of_getElem? (i := 716) (by decide +kernel), List.mem_of_getElem? (i := 717) (by decide +kernel)⟩
theorem lw_p42 : lw_okq (⟨"PackDiskModel", "isBlock", "(I)Z"⟩, 27) := ⟨⟨by decide +kernel, by decide +kernel⟩, List.mem_of_getElem? (i := 560) (by decide +kernel), List.mem_of_getElem? (i := 720) (by decide +kernel), List.mem_of_getElem? (i := 721) (by decide +kernel)⟩
theorem lw_p43 : lw_okq (⟨"PackDiskModel", "isInLog", "(I)Z"⟩, 27) := ⟨⟨by decide +kernel, by decide +kernel⟩, List.mem_of_getElem? (i := 560) (by decide +kernel), List.mem_of_getElem? (i := 724) (by decide +kernel), List.mem_of_getElem? (i := 725) (by decide +kernel)⟩
theorem lw_p44 : lw_okq (⟨"PackDiskModel", "head", "(I)V"⟩, 27) := ⟨⟨by decide +kernel, by decide +kernel⟩, List.mem_of_getElem? (i := 560) (by decide +kernel), List.mem_of_getElem? (i := 741) (by decide +kernel), List.mem_of_getElem? (i := 742) (by decide +kernel)⟩
theorem lw_p45 : lw_okq (⟨"PackDiskModel", "isHead", "(I)Z"⟩, 27) := ⟨⟨by decide +kernel, by decide +kernel⟩, List.mem_of_getElem? (i := 560) (by decide +kernel), List.mem_of_getElem? (i := 753) (by decide +kernel), List.mem_of_getElem? (i := 754) (by decide +kernel)⟩
theorem lw_p46 : lw_okq (⟨"PackDiskModel", "generationAt", "(I)I"⟩, 27) := ⟨⟨by decide +kernel, by decide +kernel⟩, List.mem_of_getElem? (i := 560) (by decide +kernel), List.mem_of_getElem? (i := 757) (by decide +kernel), List.mem_of_getElem? (i := 758) (by decide +kernel)⟩
theorem lw_p47 : lw_okq (⟨"PackDiskModel", "repairs", "(II)Z"⟩, 27) := ⟨⟨by decide +kernel, by decide +kernel⟩, List.mem_of_getElem? (i := 560) (by decide +kernel), List.mem_of_getElem? (i := 761) (by decide +kernel), List.mem_of_getElem? (i := 762) (by decide +kernel)⟩
def lw_privs_3 : List (MethodName × Nat) := [(⟨"PackDiskModel", "sortOf", "(I)I"⟩, 27), (⟨"PackDiskModel", "append", "()I"⟩, 27), (⟨"PackDiskModel", "write", "(I)V"⟩, 27), (⟨"PackDiskModel", "seal", "()V"⟩, 27), (⟨"PackDiskModel", "isRow", "(I)Z"⟩, 27), (⟨"PackDiskModel", "sectorOf", "(I)I"⟩, 27), (⟨"PackDiskModel", "missingAt", "(I)I"⟩, 27), (⟨"PackDiskModel", "blocksAt", "(I)I"⟩, 27), (⟨"PackDiskModel", "sizeAt", "(I)I"⟩, 27), (⟨"PackDiskModel", "blockAt", "(II)I"⟩, 27), (⟨"PackDiskModel", "isBlock", "(I)Z"⟩, 27), (⟨"PackDiskModel", "isInLog", "(I)Z"⟩, 27), (⟨"PackDiskModel", "head", "(I)V"⟩, 27), (⟨"PackDiskModel", "isHead", "(I)Z"⟩, 27), (⟨"PackDiskModel", "generationAt", "(I)I"⟩, 27), (⟨"PackDiskModel", "repairs", "(II)Z"⟩, 27)]
theorem lw_r3 : ∀ q ∈ lw_privs_3, lw_okq q := List.forall_mem_cons.mpr ⟨lw_p32, List.forall_mem_cons.mpr ⟨lw_p33, List.forall_mem_cons.mpr ⟨lw_p34, List.forall_mem_cons.mpr ⟨lw_p35, List.forall_mem_cons.mpr ⟨lw_p36, List.forall_mem_cons.mpr ⟨lw_p37, List.forall_mem_cons.mpr ⟨lw_p38, List.forall_mem_cons.mpr ⟨lw_p39, List.forall_mem_cons.mpr ⟨lw_p40, List.forall_mem_cons.mpr ⟨lw_p41, List.forall_mem_cons.mpr ⟨lw_p42, List.forall_mem_cons.mpr ⟨lw_p43, List.forall_mem_cons.mpr ⟨lw_p44, List.forall_mem_cons.mpr ⟨lw_p45, List.forall_mem_cons.mpr ⟨lw_p46, List.forall_mem_cons.mpr ⟨lw_p47, fun _ h => absurd h List.not_mem_nil⟩⟩⟩⟩⟩⟩⟩⟩⟩⟩⟩⟩⟩⟩⟩⟩
theorem lw_p48 : lw_okq (⟨"PackDiskModel", "findUnknown", "(I)Z"⟩, 27) := ⟨⟨by decide +kernel, by decide +kernel⟩, List.mem_of_getElem? (i := 560) (by decide +kernel), List.mem_of_getElem? (i := 765) (by decide +kernel), List.mem_of_getElem? (i := 766) (by decide +kernel)⟩
theorem lw_p49 : lw_okq (⟨"PackDiskModel", "symbolOf", "(II)I"⟩, 27) := ⟨⟨by decide +kernel, by decide +kernel⟩, List.mem_of_getElem? (i := 560) (by decide +kernel), List.mem_of_getElem? (i := 769) (by decide +kernel), List.mem_of_getElem? (i := 770) (by decide +kernel)⟩
theorem lw_p50 : lw_okq (⟨"PackDiskModel", "findRest", "(III[I)V"⟩, 27) := ⟨⟨by decide +kernel, by decide +kernel⟩, List.mem_of_getElem? (i := 560) (by decide +kernel), List.mem_of_getElem? (i := 773) (by decide +kernel), List.mem_of_getElem? (i := 774) (by decide +kernel)⟩
theorem lw_p51 : lw_okq (⟨"PackDiskModel", "isOne", "(ZZ)Z"⟩, 27) := ⟨⟨by decide +kernel, by decide +kernel⟩, List.mem_of_getElem? (i := 560) (by decide +kernel), List.mem_of_getElem? (i := 777) (by decide +kernel), List.mem_of_getElem? (i := 778) (by decide +kernel)⟩
theorem lw_p52 : lw_okq (⟨"PackDiskModel", "isTwo", "(Z)Z"⟩, 27) := ⟨⟨by decide +kernel, by decide +kernel⟩, List.mem_of_getElem? (i := 560) (by decide +kernel), List.mem_of_getElem? (i := 784) (by decide +kernel), List.mem_of_getElem? (i := 785) (by decide +kernel)⟩
theorem lw_p53 : lw_okq (⟨"PackDiskModel", "fill", "(I[I)V"⟩, 27) := ⟨⟨by decide +kernel, by decide +kernel⟩, List.mem_of_getElem? (i := 560) (by decide +kernel), List.mem_of_getElem? (i := 788) (by decide +kernel), List.mem_of_getElem? (i := 789) (by decide +kernel)⟩
theorem lw_p54 : lw_okq (⟨"PackDiskModel", "isSector", "(I)Z"⟩, 27) := ⟨⟨by decide +kernel, by decide +kernel⟩, List.mem_of_getElem? (i := 560) (by decide +kernel), List.mem_of_getElem? (i := 804) (by decide +kernel), List.mem_of_getElem? (i := 805) (by decide +kernel)⟩
def lw_privs_4 : List (MethodName × Nat) := [(⟨"PackDiskModel", "findUnknown", "(I)Z"⟩, 27), (⟨"PackDiskModel", "symbolOf", "(II)I"⟩, 27), (⟨"PackDiskModel", "findRest", "(III[I)V"⟩, 27), (⟨"PackDiskModel", "isOne", "(ZZ)Z"⟩, 27), (⟨"PackDiskModel", "isTwo", "(Z)Z"⟩, 27), (⟨"PackDiskModel", "fill", "(I[I)V"⟩, 27), (⟨"PackDiskModel", "isSector", "(I)Z"⟩, 27)]
theorem lw_r4 : ∀ q ∈ lw_privs_4, lw_okq q := List.forall_mem_cons.mpr ⟨lw_p48, List.forall_mem_cons.mpr ⟨lw_p49, List.forall_mem_cons.mpr ⟨lw_p50, List.forall_mem_cons.mpr ⟨lw_p51, List.forall_mem_cons.mpr ⟨lw_p52, List.forall_mem_cons.mpr ⟨lw_p53, List.forall_mem_cons.mpr ⟨lw_p54, fun _ h => absurd h List.not_mem_nil⟩⟩⟩⟩⟩⟩⟩
def lw_privs : List (MethodName × Nat) := lw_privs_1 ++ (lw_privs_2 ++ (lw_privs_3 ++ (lw_privs_4)))
def lw_tbl : List Cond := k2_sels lw_privs ++ tables_1
theorem lw_privs_ok : ∀ q ∈ lw_privs, lw_okq q := by
  show ∀ q ∈ lw_privs_1 ++ (lw_privs_2 ++ (lw_privs_3 ++ (lw_privs_4))), lw_okq q
  exact List.forall_mem_append.mpr ⟨lw_r1, List.forall_mem_append.mpr ⟨lw_r2, List.forall_mem_append.mpr ⟨lw_r3, lw_r4⟩⟩⟩
end
section
def RX0 : String := "PackDisk$Draft"
def TX0 : u_T := fun k => match k with
  | _ => ("PackDisk$Draft", "bytes", "[I", true)
def tyX0 : Nat → FieldType := fun k => match k with
  | _ => .array .int
abbrev wsX00 : List Cond := u_ws RX0 TX0 1
theorem nmX0 : ∀ a, a < 1 → ∀ b, b < 1 → a ≠ b → (TX0 a).2.1 ≠ (TX0 b).2.1 := by decide +kernel
theorem tyX0_ok : ∀ k, k < 1 → parseFieldDescriptor (TX0 k).2.2.1 = some (tyX0 k) := by decide +kernel
abbrev cX0_init : ByteArray := prog_2_method_1_code
def yX0_init : MethodName := ⟨RX0, "<init>", "()V"⟩
abbrev cX0_begin : ByteArray := prog_2_method_2_code
def yX0_begin : MethodName := ⟨RX0, "begin", "(IIII)V"⟩
abbrev cX0_setContent : ByteArray := prog_2_method_3_code
def yX0_setContent : MethodName := ⟨RX0, "setContent", "(II)V"⟩
abbrev cX0_cell : ByteArray := prog_2_method_4_code
def yX0_cell : MethodName := ⟨RX0, "cell", "(I)I"⟩
abbrev cX0_seal : ByteArray := prog_2_method_5_code
def yX0_seal : MethodName := ⟨RX0, "seal", "()V"⟩
def RX1 : String := "PackDisk$Field"
def TX1 : u_T := fun k => match k with
  | _ => ("", "", "", false)
def tyX1 : Nat → FieldType := fun k => match k with
  | _ => .int
abbrev wsX10 : List Cond := u_ws RX1 TX1 0
theorem nmX1 : ∀ a, a < 0 → ∀ b, b < 0 → a ≠ b → (TX1 a).2.1 ≠ (TX1 b).2.1 := by decide +kernel
theorem tyX1_ok : ∀ k, k < 0 → parseFieldDescriptor (TX1 k).2.2.1 = some (tyX1 k) := by decide +kernel
abbrev cX1_twice : ByteArray := prog_3_method_2_code
def yX1_twice : MethodName := ⟨RX1, "twice", "(I)I"⟩
abbrev cX1_times : ByteArray := prog_3_method_3_code
def yX1_times : MethodName := ⟨RX1, "times", "(II)I"⟩
abbrev cX1_inverse : ByteArray := prog_3_method_4_code
def yX1_inverse : MethodName := ⟨RX1, "inverse", "(I)I"⟩
def RX2 : String := "PackDisk$Gaps"
def TX2 : u_T := fun k => match k with
  | 0 => ("PackDisk$Gaps", "unknowns", "[I", true)
  | 1 => ("PackDisk$Gaps", "inP", "[I", true)
  | 2 => ("PackDisk$Gaps", "inQ", "[I", true)
  | 3 => ("PackDisk$Gaps", "fillings", "[I", true)
  | 4 => ("PackDisk$Gaps", "size", "I", false)
  | _ => ("PackDisk$Gaps", "inverse", "I", false)
def tyX2 : Nat → FieldType := fun k => match k with
  | 0 => .array .int
  | 1 => .array .int
  | 2 => .array .int
  | 3 => .array .int
  | 4 => .int
  | _ => .int
abbrev wsX20 : List Cond := u_ws RX2 TX2 6
theorem nmX2 : ∀ a, a < 6 → ∀ b, b < 6 → a ≠ b → (TX2 a).2.1 ≠ (TX2 b).2.1 := by decide +kernel
theorem tyX2_ok : ∀ k, k < 6 → parseFieldDescriptor (TX2 k).2.2.1 = some (tyX2 k) := by decide +kernel
abbrev cX2_init : ByteArray := prog_4_method_1_code
def yX2_init : MethodName := ⟨RX2, "<init>", "()V"⟩
abbrev cX2_clear : ByteArray := prog_4_method_2_code
def yX2_clear : MethodName := ⟨RX2, "clear", "()V"⟩
abbrev cX2_size : ByteArray := prog_4_method_3_code
def yX2_size : MethodName := ⟨RX2, "size", "()I"⟩
abbrev cX2_sectorOf : ByteArray := prog_4_method_4_code
def yX2_sectorOf : MethodName := ⟨RX2, "sectorOf", "(I)I"⟩
abbrev cX2_filling : ByteArray := prog_4_method_5_code
def yX2_filling : MethodName := ⟨RX2, "filling", "(II)I"⟩
abbrev cX2_note : ByteArray := prog_4_method_6_code
def yX2_note : MethodName := ⟨RX2, "note", "(II)V"⟩
abbrev cX2_prepare : ByteArray := prog_4_method_7_code
def yX2_prepare : MethodName := ⟨RX2, "prepare", "(ZZ)Z"⟩
abbrev cX2_solve : ByteArray := prog_4_method_8_code
def yX2_solve : MethodName := ⟨RX2, "solve", "(III)Z"⟩
def RX3 : String := "PackDisk$Journal"
def TX3 : u_T := fun k => match k with
  | 0 => ("PackDisk$Journal", "written", "[I", true)
  | 1 => ("PackDisk$Journal", "cells", "[I", true)
  | 2 => ("PackDisk$Journal", "lost", "[Z", true)
  | _ => ("PackDisk$Journal", "size", "I", false)
def tyX3 : Nat → FieldType := fun k => match k with
  | 0 => .array .int
  | 1 => .array .int
  | 2 => .array .boolean
  | _ => .int
abbrev wsX30 : List Cond := u_ws RX3 TX3 4
theorem nmX3 : ∀ a, a < 4 → ∀ b, b < 4 → a ≠ b → (TX3 a).2.1 ≠ (TX3 b).2.1 := by decide +kernel
theorem tyX3_ok : ∀ k, k < 4 → parseFieldDescriptor (TX3 k).2.2.1 = some (tyX3 k) := by decide +kernel
abbrev cX3_init : ByteArray := prog_5_method_1_code
def yX3_init : MethodName := ⟨RX3, "<init>", "()V"⟩
abbrev cX3_size : ByteArray := prog_5_method_2_code
def yX3_size : MethodName := ⟨RX3, "size", "()I"⟩
abbrev cX3_clear : ByteArray := prog_5_method_3_code
def yX3_clear : MethodName := ⟨RX3, "clear", "()V"⟩
abbrev cX3_note : ByteArray := prog_5_method_4_code
def yX3_note : MethodName := ⟨RX3, "note", "(ILPackDisk$Sectors;)V"⟩
abbrev cX3_undoBehind : ByteArray := prog_5_method_5_code
def yX3_undoBehind : MethodName := ⟨RX3, "undoBehind", "(IILPackDisk$Sectors;)V"⟩
def RX4 : String := "PackDisk$Sectors"
def TX4 : u_T := fun k => match k with
  | 0 => ("PackDisk$Sectors", "count", "I", true)
  | 1 => ("PackDisk$Sectors", "cells", "[I", true)
  | 2 => ("PackDisk$Sectors", "lost", "[Z", true)
  | _ => ("PackDisk$Sectors", "sorts", "[I", true)
def tyX4 : Nat → FieldType := fun k => match k with
  | 0 => .int
  | 1 => .array .int
  | 2 => .array .boolean
  | _ => .array .int
abbrev wsX40 : List Cond := u_ws RX4 TX4 4
theorem nmX4 : ∀ a, a < 4 → ∀ b, b < 4 → a ≠ b → (TX4 a).2.1 ≠ (TX4 b).2.1 := by decide +kernel
theorem tyX4_ok : ∀ k, k < 4 → parseFieldDescriptor (TX4 k).2.2.1 = some (tyX4 k) := by decide +kernel
abbrev cX4_init : ByteArray := prog_6_method_1_code
def yX4_init : MethodName := ⟨RX4, "<init>", "(I)V"⟩
abbrev cX4_count : ByteArray := prog_6_method_2_code
def yX4_count : MethodName := ⟨RX4, "count", "()I"⟩
abbrev cX4_has : ByteArray := prog_6_method_3_code
def yX4_has : MethodName := ⟨RX4, "has", "(I)Z"⟩
abbrev cX4_hasCell : ByteArray := prog_6_method_4_code
def yX4_hasCell : MethodName := ⟨RX4, "hasCell", "(II)Z"⟩
abbrev cX4_cell : ByteArray := prog_6_method_5_code
def yX4_cell : MethodName := ⟨RX4, "cell", "(II)I"⟩
abbrev cX4_content : ByteArray := prog_6_method_6_code
def yX4_content : MethodName := ⟨RX4, "content", "(II)I"⟩
abbrev cX4_wholeSort : ByteArray := prog_6_method_7_code
def yX4_wholeSort : MethodName := ⟨RX4, "wholeSort", "(I)I"⟩
abbrev cX4_isLost : ByteArray := prog_6_method_8_code
def yX4_isLost : MethodName := ⟨RX4, "isLost", "(I)Z"⟩
abbrev cX4_countLost : ByteArray := prog_6_method_9_code
def yX4_countLost : MethodName := ⟨RX4, "countLost", "()I"⟩
abbrev cX4_hasContentOf : ByteArray := prog_6_method_10_code
def yX4_hasContentOf : MethodName := ⟨RX4, "hasContentOf", "(ILPackDisk$Draft;)Z"⟩
abbrev cX4_markLost : ByteArray := prog_6_method_11_code
def yX4_markLost : MethodName := ⟨RX4, "markLost", "(I)V"⟩
abbrev cX4_flip : ByteArray := prog_6_method_12_code
def yX4_flip : MethodName := ⟨RX4, "flip", "(III)V"⟩
abbrev cX4_store : ByteArray := prog_6_method_13_code
def yX4_store : MethodName := ⟨RX4, "store", "(ILPackDisk$Draft;I)V"⟩
abbrev cX4_copyTo : ByteArray := prog_6_method_14_code
def yX4_copyTo : MethodName := ⟨RX4, "copyTo", "(I[II)V"⟩
abbrev cX4_takeBack : ByteArray := prog_6_method_15_code
def yX4_takeBack : MethodName := ⟨RX4, "takeBack", "(II[IIZ)V"⟩
abbrev cX4_judge : ByteArray := prog_6_method_16_code
def yX4_judge : MethodName := ⟨RX4, "judge", "(I)V"⟩
def RX5 : String := "PackDisk"
def TX5 : u_T := fun k => match k with
  | 0 => ("PackDisk", "sectors", "LPackDisk$Sectors;", true)
  | 1 => ("PackDisk", "journal", "LPackDisk$Journal;", true)
  | 2 => ("PackDisk", "draft", "LPackDisk$Draft;", true)
  | 3 => ("PackDisk", "gaps", "LPackDisk$Gaps;", true)
  | 4 => ("PackDisk", "openBytes", "[I", true)
  | 5 => ("PackDisk", "places", "[I", true)
  | 6 => ("PackDisk", "on", "Z", false)
  | 7 => ("PackDisk", "next", "I", false)
  | 8 => ("PackDisk", "rows", "I", false)
  | 9 => ("PackDisk", "generation", "I", false)
  | 10 => ("PackDisk", "openKind", "I", false)
  | 11 => ("PackDisk", "openLength", "I", false)
  | 12 => ("PackDisk", "repaired", "I", false)
  | _ => ("PackDisk", "found", "I", false)
def tyX5 : Nat → FieldType := fun k => match k with
  | 0 => .object "PackDisk$Sectors"
  | 1 => .object "PackDisk$Journal"
  | 2 => .object "PackDisk$Draft"
  | 3 => .object "PackDisk$Gaps"
  | 4 => .array .int
  | 5 => .array .int
  | 6 => .boolean
  | 7 => .int
  | 8 => .int
  | 9 => .int
  | 10 => .int
  | 11 => .int
  | 12 => .int
  | _ => .int
abbrev wsX50 : List Cond := u_ws RX5 TX5 14
theorem nmX5 : ∀ a, a < 14 → ∀ b, b < 14 → a ≠ b → (TX5 a).2.1 ≠ (TX5 b).2.1 := by decide +kernel
theorem tyX5_ok : ∀ k, k < 14 → parseFieldDescriptor (TX5 k).2.2.1 = some (tyX5 k) := by decide +kernel
abbrev cX5_init : ByteArray := prog_1_method_1_code
def yX5_init : MethodName := ⟨RX5, "<init>", "(I)V"⟩
abbrev cX5_open : ByteArray := prog_1_method_2_code
def yX5_open : MethodName := ⟨RX5, "open", "(I)I"⟩
abbrev cX5_add : ByteArray := prog_1_method_3_code
def yX5_add : MethodName := ⟨RX5, "add", "(JI)I"⟩
abbrev cX5_end : ByteArray := prog_1_method_4_code
def yX5_end : MethodName := ⟨RX5, "end", "()I"⟩
abbrev cX5_protect : ByteArray := prog_1_method_5_code
def yX5_protect : MethodName := ⟨RX5, "protect", "(II)I"⟩
abbrev cX5_sync : ByteArray := prog_1_method_6_code
def yX5_sync : MethodName := ⟨RX5, "sync", "()I"⟩
abbrev cX5_cut : ByteArray := prog_1_method_7_code
def yX5_cut : MethodName := ⟨RX5, "cut", "(II)I"⟩
abbrev cX5_start : ByteArray := prog_1_method_8_code
def yX5_start : MethodName := ⟨RX5, "start", "()I"⟩
abbrev cX5_at : ByteArray := prog_1_method_9_code
def yX5_at : MethodName := ⟨RX5, "at", "(II)I"⟩
abbrev cX5_row : ByteArray := prog_1_method_10_code
def yX5_row : MethodName := ⟨RX5, "row", "(II)I"⟩
abbrev cX5_lose : ByteArray := prog_1_method_11_code
def yX5_lose : MethodName := ⟨RX5, "lose", "(I)I"⟩
abbrev cX5_poke : ByteArray := prog_1_method_12_code
def yX5_poke : MethodName := ⟨RX5, "poke", "(III)I"⟩
abbrev cX5_octet : ByteArray := prog_1_method_13_code
def yX5_octet : MethodName := ⟨RX5, "octet", "(II)I"⟩
abbrev cX5_whole : ByteArray := prog_1_method_14_code
def yX5_whole : MethodName := ⟨RX5, "whole", "(I)I"⟩
abbrev cX5_listed : ByteArray := prog_1_method_15_code
def yX5_listed : MethodName := ⟨RX5, "listed", "(I)I"⟩
abbrev cX5_told : ByteArray := prog_1_method_16_code
def yX5_told : MethodName := ⟨RX5, "told", "(I)I"⟩
abbrev cX5_isOpen : ByteArray := prog_1_method_17_code
def yX5_isOpen : MethodName := ⟨RX5, "isOpen", "()Z"⟩
abbrev cX5_sectorsLeft : ByteArray := prog_1_method_18_code
def yX5_sectorsLeft : MethodName := ⟨RX5, "sectorsLeft", "()I"⟩
abbrev cX5_isRowNumber : ByteArray := prog_1_method_19_code
def yX5_isRowNumber : MethodName := ⟨RX5, "isRowNumber", "(I)Z"⟩
abbrev cX5_isInLog : ByteArray := prog_1_method_20_code
def yX5_isInLog : MethodName := ⟨RX5, "isInLog", "(I)Z"⟩
abbrev cX5_isBlock : ByteArray := prog_1_method_21_code
def yX5_isBlock : MethodName := ⟨RX5, "isBlock", "(I)Z"⟩
abbrev cX5_isHurt : ByteArray := prog_1_method_22_code
def yX5_isHurt : MethodName := ⟨RX5, "isHurt", "(I)Z"⟩
abbrev cX5_findRow : ByteArray := prog_1_method_23_code
def yX5_findRow : MethodName := ⟨RX5, "findRow", "(I)I"⟩
abbrev cX5_findSymbol : ByteArray := prog_1_method_24_code
def yX5_findSymbol : MethodName := ⟨RX5, "findSymbol", "(II)I"⟩
abbrev cX5_findDraftedBlock : ByteArray := prog_1_method_25_code
def yX5_findDraftedBlock : MethodName := ⟨RX5, "findDraftedBlock", "()I"⟩
abbrev cX5_lengthOfRow : ByteArray := prog_1_method_26_code
def yX5_lengthOfRow : MethodName := ⟨RX5, "lengthOfRow", "(I)I"⟩
abbrev cX5_blocksOfRow : ByteArray := prog_1_method_27_code
def yX5_blocksOfRow : MethodName := ⟨RX5, "blocksOfRow", "(I)I"⟩
abbrev cX5_blocksForLength : ByteArray := prog_1_method_28_code
def yX5_blocksForLength : MethodName := ⟨RX5, "blocksForLength", "(I)I"⟩
abbrev cX5_countMissing : ByteArray := prog_1_method_29_code
def yX5_countMissing : MethodName := ⟨RX5, "countMissing", "(I)I"⟩
abbrev cX5_symbolByte : ByteArray := prog_1_method_30_code
def yX5_symbolByte : MethodName := ⟨RX5, "symbolByte", "(III)I"⟩
abbrev cX5_placeOpenBlock : ByteArray := prog_1_method_31_code
def yX5_placeOpenBlock : MethodName := ⟨RX5, "placeOpenBlock", "(I)I"⟩
abbrev cX5_writeSymbol : ByteArray := prog_1_method_32_code
def yX5_writeSymbol : MethodName := ⟨RX5, "writeSymbol", "(III)I"⟩
abbrev cX5_writeNext : ByteArray := prog_1_method_33_code
def yX5_writeNext : MethodName := ⟨RX5, "writeNext", "()I"⟩
abbrev cX5_headSector : ByteArray := prog_1_method_34_code
def yX5_headSector : MethodName := ⟨RX5, "headSector", "(I)I"⟩
abbrev cX5_draftHead : ByteArray := prog_1_method_35_code
def yX5_draftHead : MethodName := ⟨RX5, "draftHead", "(I)V"⟩
abbrev cX5_tearHead : ByteArray := prog_1_method_36_code
def yX5_tearHead : MethodName := ⟨RX5, "tearHead", "(I)V"⟩
abbrev cX5_isHead : ByteArray := prog_1_method_37_code
def yX5_isHead : MethodName := ⟨RX5, "isHead", "(I)Z"⟩
abbrev cX5_generationIn : ByteArray := prog_1_method_38_code
def yX5_generationIn : MethodName := ⟨RX5, "generationIn", "(I)I"⟩
abbrev cX5_chooseHead : ByteArray := prog_1_method_39_code
def yX5_chooseHead : MethodName := ⟨RX5, "chooseHead", "()I"⟩
abbrev cX5_readHead : ByteArray := prog_1_method_40_code
def yX5_readHead : MethodName := ⟨RX5, "readHead", "()V"⟩
abbrev cX5_extendLog : ByteArray := prog_1_method_41_code
def yX5_extendLog : MethodName := ⟨RX5, "extendLog", "()V"⟩
abbrev cX5_countRows : ByteArray := prog_1_method_42_code
def yX5_countRows : MethodName := ⟨RX5, "countRows", "()V"⟩
abbrev cX5_repairAll : ByteArray := prog_1_method_43_code
def yX5_repairAll : MethodName := ⟨RX5, "repairAll", "()V"⟩
abbrev cX5_repairRow : ByteArray := prog_1_method_44_code
def yX5_repairRow : MethodName := ⟨RX5, "repairRow", "(I)V"⟩
abbrev cX5_collectGaps : ByteArray := prog_1_method_45_code
def yX5_collectGaps : MethodName := ⟨RX5, "collectGaps", "(I)Z"⟩
abbrev cX5_fillGaps : ByteArray := prog_1_method_46_code
def yX5_fillGaps : MethodName := ⟨RX5, "fillGaps", "()V"⟩
abbrev cX5_sumOf : ByteArray := prog_1_method_47_code
def yX5_sumOf : MethodName := ⟨RX5, "sumOf", "([II)I"⟩
def RX6 : String := "PackDiskModel"
def TX6 : u_T := fun k => match k with
  | 0 => ("PackDiskModel", "thrown", "I", false)
  | 1 => ("PackDiskModel", "n", "I", true)
  | 2 => ("PackDiskModel", "octets", "[I", true)
  | 3 => ("PackDiskModel", "isLost", "[Z", true)
  | 4 => ("PackDiskModel", "isOn", "Z", false)
  | 5 => ("PackDiskModel", "next", "I", false)
  | 6 => ("PackDiskModel", "rows", "I", false)
  | 7 => ("PackDiskModel", "generation", "I", false)
  | 8 => ("PackDiskModel", "repaired", "I", false)
  | 9 => ("PackDiskModel", "found", "I", false)
  | 10 => ("PackDiskModel", "kind", "I", false)
  | 11 => ("PackDiskModel", "size", "I", false)
  | 12 => ("PackDiskModel", "open", "[I", true)
  | 13 => ("PackDiskModel", "writes", "I", false)
  | 14 => ("PackDiskModel", "wroteAt", "[I", true)
  | 15 => ("PackDiskModel", "wasThere", "[I", true)
  | 16 => ("PackDiskModel", "wasLost", "[Z", true)
  | 17 => ("PackDiskModel", "draft", "[I", true)
  | 18 => ("PackDiskModel", "at4", "[I", true)
  | 19 => ("PackDiskModel", "unknowns", "I", false)
  | 20 => ("PackDiskModel", "unknown", "[I", true)
  | 21 => ("PackDiskModel", "inP", "[I", true)
  | 22 => ("PackDiskModel", "inQ", "[I", true)
  | 23 => ("PackDiskModel", "restP", "[I", true)
  | 24 => ("PackDiskModel", "restQ", "[I", true)
  | 25 => ("PackDiskModel", "one", "[I", true)
  | _ => ("PackDiskModel", "two", "[I", true)
def tyX6 : Nat → FieldType := fun k => match k with
  | 0 => .int
  | 1 => .int
  | 2 => .array .int
  | 3 => .array .boolean
  | 4 => .boolean
  | 5 => .int
  | 6 => .int
  | 7 => .int
  | 8 => .int
  | 9 => .int
  | 10 => .int
  | 11 => .int
  | 12 => .array .int
  | 13 => .int
  | 14 => .array .int
  | 15 => .array .int
  | 16 => .array .boolean
  | 17 => .array .int
  | 18 => .array .int
  | 19 => .int
  | 20 => .array .int
  | 21 => .array .int
  | 22 => .array .int
  | 23 => .array .int
  | 24 => .array .int
  | 25 => .array .int
  | _ => .array .int
abbrev wsX60 : List Cond := u_ws RX6 TX6 27
theorem nmX6 : ∀ a, a < 27 → ∀ b, b < 27 → a ≠ b → (TX6 a).2.1 ≠ (TX6 b).2.1 := by decide +kernel
theorem tyX6_ok : ∀ k, k < 27 → parseFieldDescriptor (TX6 k).2.2.1 = some (tyX6 k) := by decide +kernel
abbrev cX6_init : ByteArray := prog_8_method_1_code
def yX6_init : MethodName := ⟨RX6, "<init>", "(I)V"⟩
abbrev cX6_in : ByteArray := prog_8_method_3_code
def yX6_in : MethodName := ⟨RX6, "in", "(III)Z"⟩
abbrev cX6_isSector : ByteArray := prog_8_method_4_code
def yX6_isSector : MethodName := ⟨RX6, "isSector", "(I)Z"⟩
abbrev cX6_sumOf : ByteArray := prog_8_method_5_code
def yX6_sumOf : MethodName := ⟨RX6, "sumOf", "([II)I"⟩
abbrev cX6_sortOf : ByteArray := prog_8_method_6_code
def yX6_sortOf : MethodName := ⟨RX6, "sortOf", "(I)I"⟩
abbrev cX6_isInLog : ByteArray := prog_8_method_7_code
def yX6_isInLog : MethodName := ⟨RX6, "isInLog", "(I)Z"⟩
abbrev cX6_isBlock : ByteArray := prog_8_method_8_code
def yX6_isBlock : MethodName := ⟨RX6, "isBlock", "(I)Z"⟩
abbrev cX6_begin : ByteArray := prog_8_method_9_code
def yX6_begin : MethodName := ⟨RX6, "begin", "(IIII)V"⟩
abbrev cX6_seal : ByteArray := prog_8_method_10_code
def yX6_seal : MethodName := ⟨RX6, "seal", "()V"⟩
abbrev cX6_write : ByteArray := prog_8_method_11_code
def yX6_write : MethodName := ⟨RX6, "write", "(I)V"⟩
abbrev cX6_append : ByteArray := prog_8_method_12_code
def yX6_append : MethodName := ⟨RX6, "append", "()I"⟩
abbrev cX6_isRow : ByteArray := prog_8_method_13_code
def yX6_isRow : MethodName := ⟨RX6, "isRow", "(I)Z"⟩
abbrev cX6_sectorOf : ByteArray := prog_8_method_14_code
def yX6_sectorOf : MethodName := ⟨RX6, "sectorOf", "(I)I"⟩
abbrev cX6_symbolOf : ByteArray := prog_8_method_15_code
def yX6_symbolOf : MethodName := ⟨RX6, "symbolOf", "(II)I"⟩
abbrev cX6_sizeAt : ByteArray := prog_8_method_16_code
def yX6_sizeAt : MethodName := ⟨RX6, "sizeAt", "(I)I"⟩
abbrev cX6_blocksAt : ByteArray := prog_8_method_17_code
def yX6_blocksAt : MethodName := ⟨RX6, "blocksAt", "(I)I"⟩
abbrev cX6_blockAt : ByteArray := prog_8_method_18_code
def yX6_blockAt : MethodName := ⟨RX6, "blockAt", "(II)I"⟩
abbrev cX6_missingAt : ByteArray := prog_8_method_19_code
def yX6_missingAt : MethodName := ⟨RX6, "missingAt", "(I)I"⟩
abbrev cX6_open : ByteArray := prog_8_method_20_code
def yX6_open : MethodName := ⟨RX6, "open", "(I)I"⟩
abbrev cX6_add : ByteArray := prog_8_method_21_code
def yX6_add : MethodName := ⟨RX6, "add", "(JI)I"⟩
abbrev cX6_blockFor : ByteArray := prog_8_method_22_code
def yX6_blockFor : MethodName := ⟨RX6, "blockFor", "(I)I"⟩
abbrev cX6_end : ByteArray := prog_8_method_23_code
def yX6_end : MethodName := ⟨RX6, "end", "()I"⟩
abbrev cX6_twice : ByteArray := prog_8_method_24_code
def yX6_twice : MethodName := ⟨RX6, "twice", "(I)I"⟩
abbrev cX6_product : ByteArray := prog_8_method_25_code
def yX6_product : MethodName := ⟨RX6, "product", "(II)I"⟩
abbrev cX6_quotient : ByteArray := prog_8_method_26_code
def yX6_quotient : MethodName := ⟨RX6, "quotient", "(II)I"⟩
abbrev cX6_weight : ByteArray := prog_8_method_27_code
def yX6_weight : MethodName := ⟨RX6, "weight", "(II)I"⟩
abbrev cX6_protect : ByteArray := prog_8_method_28_code
def yX6_protect : MethodName := ⟨RX6, "protect", "(II)I"⟩
abbrev cX6_head : ByteArray := prog_8_method_29_code
def yX6_head : MethodName := ⟨RX6, "head", "(I)V"⟩
abbrev cX6_sync : ByteArray := prog_8_method_30_code
def yX6_sync : MethodName := ⟨RX6, "sync", "()I"⟩
abbrev cX6_cut : ByteArray := prog_8_method_31_code
def yX6_cut : MethodName := ⟨RX6, "cut", "(II)I"⟩
abbrev cX6_generationAt : ByteArray := prog_8_method_32_code
def yX6_generationAt : MethodName := ⟨RX6, "generationAt", "(I)I"⟩
abbrev cX6_isHead : ByteArray := prog_8_method_33_code
def yX6_isHead : MethodName := ⟨RX6, "isHead", "(I)Z"⟩
abbrev cX6_start : ByteArray := prog_8_method_34_code
def yX6_start : MethodName := ⟨RX6, "start", "()I"⟩
abbrev cX6_findUnknown : ByteArray := prog_8_method_35_code
def yX6_findUnknown : MethodName := ⟨RX6, "findUnknown", "(I)Z"⟩
abbrev cX6_findRest : ByteArray := prog_8_method_36_code
def yX6_findRest : MethodName := ⟨RX6, "findRest", "(III[I)V"⟩
abbrev cX6_isOne : ByteArray := prog_8_method_37_code
def yX6_isOne : MethodName := ⟨RX6, "isOne", "(ZZ)Z"⟩
abbrev cX6_isTwo : ByteArray := prog_8_method_38_code
def yX6_isTwo : MethodName := ⟨RX6, "isTwo", "(Z)Z"⟩
abbrev cX6_fill : ByteArray := prog_8_method_39_code
def yX6_fill : MethodName := ⟨RX6, "fill", "(I[I)V"⟩
abbrev cX6_repairs : ByteArray := prog_8_method_40_code
def yX6_repairs : MethodName := ⟨RX6, "repairs", "(II)Z"⟩
abbrev cX6_at : ByteArray := prog_8_method_41_code
def yX6_at : MethodName := ⟨RX6, "at", "(II)I"⟩
abbrev cX6_row : ByteArray := prog_8_method_42_code
def yX6_row : MethodName := ⟨RX6, "row", "(II)I"⟩
abbrev cX6_lose : ByteArray := prog_8_method_43_code
def yX6_lose : MethodName := ⟨RX6, "lose", "(I)I"⟩
abbrev cX6_poke : ByteArray := prog_8_method_44_code
def yX6_poke : MethodName := ⟨RX6, "poke", "(III)I"⟩
abbrev cX6_octet : ByteArray := prog_8_method_45_code
def yX6_octet : MethodName := ⟨RX6, "octet", "(II)I"⟩
abbrev cX6_whole : ByteArray := prog_8_method_46_code
def yX6_whole : MethodName := ⟨RX6, "whole", "(I)I"⟩
abbrev cX6_listed : ByteArray := prog_8_method_47_code
def yX6_listed : MethodName := ⟨RX6, "listed", "(I)I"⟩
abbrev cX6_told : ByteArray := prog_8_method_48_code
def yX6_told : MethodName := ⟨RX6, "told", "(I)I"⟩
def RJx00060 : String := "java/lang/ArrayIndexOutOfBoundsException"
def TJx00060 : u_T := fun k => match k with
  | 0 => ("java/lang/Throwable", "backtrace", "Ljava/lang/Object;", false)
  | 1 => ("java/lang/Throwable", "detailMessage", "Ljava/lang/String;", false)
  | 2 => ("java/lang/Throwable", "cause", "Ljava/lang/Throwable;", false)
  | 3 => ("java/lang/Throwable", "stackTrace", "[Ljava/lang/StackTraceElement;", false)
  | 4 => ("java/lang/Throwable", "depth", "I", false)
  | _ => ("java/lang/Throwable", "suppressedExceptions", "Ljava/util/List;", false)
def tyJx00060 : Nat → FieldType := fun k => match k with
  | 0 => .object "java/lang/Object"
  | 1 => .object "java/lang/String"
  | 2 => .object "java/lang/Throwable"
  | 3 => .array (.object "java/lang/StackTraceElement")
  | 4 => .int
  | _ => .object "java/util/List"
abbrev wsJx000600 : List Cond := u_ws RJx00060 TJx00060 6
theorem nmJx00060 : ∀ a, a < 6 → ∀ b, b < 6 → a ≠ b → (TJx00060 a).2.1 ≠ (TJx00060 b).2.1 := by decide +kernel
theorem tyJx00060_ok : ∀ k, k < 6 → parseFieldDescriptor (TJx00060 k).2.2.1 = some (tyJx00060 k) := by decide +kernel
abbrev cJx00060_init_a7421 : ByteArray := prog_9_method_2_code
def yJx00060_init_a7421 : MethodName := ⟨RJx00060, "<init>", "(Ljava/lang/String;)V"⟩
def RJ9 : String := "java/lang/Math"
def TJ9 : u_T := fun k => match k with
  | _ => ("", "", "", false)
def tyJ9 : Nat → FieldType := fun k => match k with
  | _ => .int
abbrev wsJ90 : List Cond := u_ws RJ9 TJ9 0
theorem nmJ9 : ∀ a, a < 0 → ∀ b, b < 0 → a ≠ b → (TJ9 a).2.1 ≠ (TJ9 b).2.1 := by decide +kernel
theorem tyJ9_ok : ∀ k, k < 0 → parseFieldDescriptor (TJ9 k).2.2.1 = some (tyJ9 k) := by decide +kernel
abbrev cJ9_max_7cf53 : ByteArray := prog_12_method_65_code
def yJ9_max_7cf53 : MethodName := ⟨RJ9, "max", "(II)I"⟩
abbrev cJ9_min_7cf53 : ByteArray := prog_12_method_69_code
def yJ9_min_7cf53 : MethodName := ⟨RJ9, "min", "(II)I"⟩
def RJ0 : String := "java/lang/String"
def TJ0 : u_T := fun k => match k with
  | 0 => ("java/lang/String", "value", "[B", true)
  | _ => ("java/lang/String", "coder", "B", true)
def tyJ0 : Nat → FieldType := fun k => match k with
  | 0 => .array .byte
  | _ => .byte
abbrev wsJ00 : List Cond := u_ws RJ0 TJ0 2
theorem nmJ0 : ∀ a, a < 2 → ∀ b, b < 2 → a ≠ b → (TJ0 a).2.1 ≠ (TJ0 b).2.1 := by decide +kernel
theorem tyJ0_ok : ∀ k, k < 2 → parseFieldDescriptor (TJ0 k).2.2.1 = some (tyJ0 k) := by decide +kernel
def RJ10 : String := "java/lang/System"
def TJ10 : u_T := fun k => match k with
  | _ => ("", "", "", false)
def tyJ10 : Nat → FieldType := fun k => match k with
  | _ => .int
abbrev wsJ100 : List Cond := u_ws RJ10 TJ10 0
theorem nmJ10 : ∀ a, a < 0 → ∀ b, b < 0 → a ≠ b → (TJ10 a).2.1 ≠ (TJ10 b).2.1 := by decide +kernel
theorem tyJ10_ok : ∀ k, k < 0 → parseFieldDescriptor (TJ10 k).2.2.1 = some (tyJ10 k) := by decide +kernel
def RJ7 : String := "java/util/Arrays"
def TJ7 : u_T := fun k => match k with
  | _ => ("", "", "", false)
def tyJ7 : Nat → FieldType := fun k => match k with
  | _ => .int
abbrev wsJ70 : List Cond := u_ws RJ7 TJ7 0
theorem nmJ7 : ∀ a, a < 0 → ∀ b, b < 0 → a ≠ b → (TJ7 a).2.1 ≠ (TJ7 b).2.1 := by decide +kernel
theorem tyJ7_ok : ∀ k, k < 0 → parseFieldDescriptor (TJ7 k).2.2.1 = some (tyJ7 k) := by decide +kernel
abbrev cJ7_fill_53178 : ByteArray := prog_17_method_103_code
def yJ7_fill_53178 : MethodName := ⟨RJ7, "fill", "([II)V"⟩
def RL : String := "PackDiskLaw"
abbrev cL_cell : ByteArray := method_2_code
def yL_cell : MethodName := ⟨RL, "cell", "([II)I"⟩
abbrev cL_at : ByteArray := method_3_code
def yL_at : MethodName := ⟨RL, "at", "(LPackDisk;II[J)I"⟩
abbrev cL_law : ByteArray := code
end
section
theorem dJ7_fill_53178_0 : decode cJ7_fill_53178 0 = .ok (.iconst 0, 1) := by decide +kernel
theorem dJ7_fill_53178_1 : decode cJ7_fill_53178 1 = .ok (.istore_n 2, 1) := by decide +kernel
theorem dJ7_fill_53178_2 : decode cJ7_fill_53178 2 = .ok (.aload_n 0, 1) := by decide +kernel
theorem dJ7_fill_53178_3 : decode cJ7_fill_53178 3 = .ok (.arraylength, 1) := by decide +kernel
theorem dJ7_fill_53178_4 : decode cJ7_fill_53178 4 = .ok (.istore_n 3, 1) := by decide +kernel
theorem dJ7_fill_53178_5 : decode cJ7_fill_53178 5 = .ok (.iload_n 2, 1) := by decide +kernel
theorem dJ7_fill_53178_6 : decode cJ7_fill_53178 6 = .ok (.iload_n 3, 1) := by decide +kernel
theorem dJ7_fill_53178_7 : decode cJ7_fill_53178 7 = .ok (.if_icmp .ge 13, 3) := by decide +kernel
theorem dJ7_fill_53178_10 : decode cJ7_fill_53178 10 = .ok (.aload_n 0, 1) := by decide +kernel
theorem dJ7_fill_53178_11 : decode cJ7_fill_53178 11 = .ok (.iload_n 2, 1) := by decide +kernel
theorem dJ7_fill_53178_12 : decode cJ7_fill_53178 12 = .ok (.iload_n 1, 1) := by decide +kernel
theorem dJ7_fill_53178_13 : decode cJ7_fill_53178 13 = .ok (.iastore, 1) := by decide +kernel
theorem dJ7_fill_53178_14 : decode cJ7_fill_53178 14 = .ok (.iinc 2 1, 3) := by decide +kernel
theorem dJ7_fill_53178_17 : decode cJ7_fill_53178 17 = .ok (.goto (-12), 3) := by decide +kernel
theorem dJ7_fill_53178_20 : decode cJ7_fill_53178 20 = .ok (.return_, 1) := by decide +kernel
end
section
theorem dL_cell_0 : decode cL_cell 0 = .ok (.iload_n 1, 1) := by decide +kernel
theorem dL_cell_1 : decode cL_cell 1 = .ok (.aload_n 0, 1) := by decide +kernel
theorem dL_cell_2 : decode cL_cell 2 = .ok (.arraylength, 1) := by decide +kernel
theorem dL_cell_3 : decode cL_cell 3 = .ok (.if_icmp .ge 9, 3) := by decide +kernel
theorem dL_cell_6 : decode cL_cell 6 = .ok (.aload_n 0, 1) := by decide +kernel
theorem dL_cell_7 : decode cL_cell 7 = .ok (.iload_n 1, 1) := by decide +kernel
theorem dL_cell_8 : decode cL_cell 8 = .ok (.iaload, 1) := by decide +kernel
theorem dL_cell_9 : decode cL_cell 9 = .ok (.goto 4, 3) := by decide +kernel
theorem dL_cell_12 : decode cL_cell 12 = .ok (.iconst 0, 1) := by decide +kernel
theorem dL_cell_13 : decode cL_cell 13 = .ok (.ireturn, 1) := by decide +kernel
theorem dL_at_0 : decode cL_at 0 = .ok (.aload_n 3, 1) := by decide +kernel
theorem dL_at_1 : decode cL_at 1 = .ok (.iconst 0, 1) := by decide +kernel
theorem dL_at_2 : decode cL_at 2 = .ok (.aload_n 0, 1) := by decide +kernel
theorem dL_at_3 : decode cL_at 3 = .ok (.iload_n 1, 1) := by decide +kernel
theorem dL_at_4 : decode cL_at 4 = .ok (.iload_n 2, 1) := by decide +kernel
theorem dL_at_5 : decode cL_at 5 = .ok (.invokevirtual 7, 3) := by decide +kernel
theorem dL_at_8 : decode cL_at 8 = .ok (.i2l, 1) := by decide +kernel
theorem dL_at_9 : decode cL_at 9 = .ok (.lastore, 1) := by decide +kernel
theorem dL_at_10 : decode cL_at 10 = .ok (.goto 7, 3) := by decide +kernel
theorem dL_at_13 : decode cL_at 13 = .ok (.astore 4, 2) := by decide +kernel
theorem dL_at_15 : decode cL_at 15 = .ok (.iconst 1, 1) := by decide +kernel
theorem dL_at_16 : decode cL_at 16 = .ok (.ireturn, 1) := by decide +kernel
theorem dL_at_17 : decode cL_at 17 = .ok (.iconst 0, 1) := by decide +kernel
theorem dL_at_18 : decode cL_at 18 = .ok (.ireturn, 1) := by decide +kernel
theorem dL_law_0 : decode cL_law 0 = .ok (.new 8, 3) := by decide +kernel
theorem dL_law_3 : decode cL_law 3 = .ok (.dup, 1) := by decide +kernel
theorem dL_law_4 : decode cL_law 4 = .ok (.aload_n 0, 1) := by decide +kernel
theorem dL_law_5 : decode cL_law 5 = .ok (.iconst 0, 1) := by decide +kernel
theorem dL_law_6 : decode cL_law 6 = .ok (.invokestatic 15, 3) := by decide +kernel
theorem dL_law_9 : decode cL_law 9 = .ok (.invokespecial 21, 3) := by decide +kernel
theorem dL_law_12 : decode cL_law 12 = .ok (.astore_n 1, 1) := by decide +kernel
theorem dL_law_13 : decode cL_law 13 = .ok (.new 24, 3) := by decide +kernel
theorem dL_law_16 : decode cL_law 16 = .ok (.dup, 1) := by decide +kernel
theorem dL_law_17 : decode cL_law 17 = .ok (.aload_n 0, 1) := by decide +kernel
theorem dL_law_18 : decode cL_law 18 = .ok (.iconst 0, 1) := by decide +kernel
theorem dL_law_19 : decode cL_law 19 = .ok (.invokestatic 15, 3) := by decide +kernel
theorem dL_law_22 : decode cL_law 22 = .ok (.invokespecial 26, 3) := by decide +kernel
theorem dL_law_25 : decode cL_law 25 = .ok (.astore_n 2, 1) := by decide +kernel
theorem dL_law_26 : decode cL_law 26 = .ok (.iconst 1, 1) := by decide +kernel
theorem dL_law_27 : decode cL_law 27 = .ok (.newarray .long, 2) := by decide +kernel
theorem dL_law_29 : decode cL_law 29 = .ok (.astore_n 3, 1) := by decide +kernel
theorem dL_law_30 : decode cL_law 30 = .ok (.iconst 1, 1) := by decide +kernel
theorem dL_law_31 : decode cL_law 31 = .ok (.istore 4, 2) := by decide +kernel
theorem dL_law_33 : decode cL_law 33 = .ok (.iload 4, 2) := by decide +kernel
theorem dL_law_35 : decode cL_law 35 = .ok (.aload_n 0, 1) := by decide +kernel
theorem dL_law_36 : decode cL_law 36 = .ok (.arraylength, 1) := by decide +kernel
theorem dL_law_37 : decode cL_law 37 = .ok (.iconst 4, 1) := by decide +kernel
theorem dL_law_38 : decode cL_law 38 = .ok (.isub, 1) := by decide +kernel
theorem dL_law_39 : decode cL_law 39 = .ok (.if_icmp .gt 561, 3) := by decide +kernel
theorem dL_law_42 : decode cL_law 42 = .ok (.aload_n 0, 1) := by decide +kernel
theorem dL_law_43 : decode cL_law 43 = .ok (.iload 4, 2) := by decide +kernel
theorem dL_law_45 : decode cL_law 45 = .ok (.iaload, 1) := by decide +kernel
theorem dL_law_46 : decode cL_law 46 = .ok (.bipush 15, 2) := by decide +kernel
theorem dL_law_48 : decode cL_law 48 = .ok (.iand, 1) := by decide +kernel
theorem dL_law_49 : decode cL_law 49 = .ok (.tableswitch 545 0 14 #[75, 100, 169, 182, 219, 232, 269, 282, 322, 359, 384, 433, 470, 495, 520], 75) := by decide +kernel
theorem dL_law_124 : decode cL_law 124 = .ok (.aload_n 1, 1) := by decide +kernel
theorem dL_law_125 : decode cL_law 125 = .ok (.aload_n 0, 1) := by decide +kernel
theorem dL_law_126 : decode cL_law 126 = .ok (.iload 4, 2) := by decide +kernel
theorem dL_law_128 : decode cL_law 128 = .ok (.iconst 1, 1) := by decide +kernel
theorem dL_law_129 : decode cL_law 129 = .ok (.iadd, 1) := by decide +kernel
theorem dL_law_130 : decode cL_law 130 = .ok (.iaload, 1) := by decide +kernel
theorem dL_law_131 : decode cL_law 131 = .ok (.invokevirtual 27, 3) := by decide +kernel
theorem dL_law_134 : decode cL_law 134 = .ok (.pop, 1) := by decide +kernel
theorem dL_law_135 : decode cL_law 135 = .ok (.aload_n 2, 1) := by decide +kernel
theorem dL_law_136 : decode cL_law 136 = .ok (.aload_n 0, 1) := by decide +kernel
theorem dL_law_137 : decode cL_law 137 = .ok (.iload 4, 2) := by decide +kernel
theorem dL_law_139 : decode cL_law 139 = .ok (.iconst 1, 1) := by decide +kernel
theorem dL_law_140 : decode cL_law 140 = .ok (.iadd, 1) := by decide +kernel
theorem dL_law_141 : decode cL_law 141 = .ok (.iaload, 1) := by decide +kernel
theorem dL_law_142 : decode cL_law 142 = .ok (.invokevirtual 31, 3) := by decide +kernel
theorem dL_law_145 : decode cL_law 145 = .ok (.pop, 1) := by decide +kernel
theorem dL_law_146 : decode cL_law 146 = .ok (.goto 448, 3) := by decide +kernel
theorem dL_law_149 : decode cL_law 149 = .ok (.aload_n 1, 1) := by decide +kernel
theorem dL_law_150 : decode cL_law 150 = .ok (.aload_n 0, 1) := by decide +kernel
theorem dL_law_151 : decode cL_law 151 = .ok (.iload 4, 2) := by decide +kernel
theorem dL_law_153 : decode cL_law 153 = .ok (.iconst 1, 1) := by decide +kernel
theorem dL_law_154 : decode cL_law 154 = .ok (.iadd, 1) := by decide +kernel
theorem dL_law_155 : decode cL_law 155 = .ok (.iaload, 1) := by decide +kernel
theorem dL_law_156 : decode cL_law 156 = .ok (.i2l, 1) := by decide +kernel
theorem dL_law_157 : decode cL_law 157 = .ok (.bipush 32, 2) := by decide +kernel
theorem dL_law_159 : decode cL_law 159 = .ok (.lshl, 1) := by decide +kernel
theorem dL_law_160 : decode cL_law 160 = .ok (.aload_n 0, 1) := by decide +kernel
theorem dL_law_161 : decode cL_law 161 = .ok (.iload 4, 2) := by decide +kernel
theorem dL_law_163 : decode cL_law 163 = .ok (.iconst 2, 1) := by decide +kernel
theorem dL_law_164 : decode cL_law 164 = .ok (.iadd, 1) := by decide +kernel
theorem dL_law_165 : decode cL_law 165 = .ok (.iaload, 1) := by decide +kernel
theorem dL_law_166 : decode cL_law 166 = .ok (.i2l, 1) := by decide +kernel
theorem dL_law_167 : decode cL_law 167 = .ok (.ldc2_w 32, 3) := by decide +kernel
theorem dL_law_170 : decode cL_law 170 = .ok (.land, 1) := by decide +kernel
theorem dL_law_171 : decode cL_law 171 = .ok (.lor, 1) := by decide +kernel
theorem dL_law_172 : decode cL_law 172 = .ok (.aload_n 0, 1) := by decide +kernel
theorem dL_law_173 : decode cL_law 173 = .ok (.iload 4, 2) := by decide +kernel
theorem dL_law_175 : decode cL_law 175 = .ok (.iconst 3, 1) := by decide +kernel
theorem dL_law_176 : decode cL_law 176 = .ok (.iadd, 1) := by decide +kernel
theorem dL_law_177 : decode cL_law 177 = .ok (.iaload, 1) := by decide +kernel
theorem dL_law_178 : decode cL_law 178 = .ok (.invokevirtual 34, 3) := by decide +kernel
theorem dL_law_181 : decode cL_law 181 = .ok (.pop, 1) := by decide +kernel
theorem dL_law_182 : decode cL_law 182 = .ok (.aload_n 2, 1) := by decide +kernel
theorem dL_law_183 : decode cL_law 183 = .ok (.aload_n 0, 1) := by decide +kernel
theorem dL_law_184 : decode cL_law 184 = .ok (.iload 4, 2) := by decide +kernel
theorem dL_law_186 : decode cL_law 186 = .ok (.iconst 1, 1) := by decide +kernel
theorem dL_law_187 : decode cL_law 187 = .ok (.iadd, 1) := by decide +kernel
theorem dL_law_188 : decode cL_law 188 = .ok (.iaload, 1) := by decide +kernel
theorem dL_law_189 : decode cL_law 189 = .ok (.i2l, 1) := by decide +kernel
theorem dL_law_190 : decode cL_law 190 = .ok (.bipush 32, 2) := by decide +kernel
theorem dL_law_192 : decode cL_law 192 = .ok (.lshl, 1) := by decide +kernel
theorem dL_law_193 : decode cL_law 193 = .ok (.aload_n 0, 1) := by decide +kernel
theorem dL_law_194 : decode cL_law 194 = .ok (.iload 4, 2) := by decide +kernel
theorem dL_law_196 : decode cL_law 196 = .ok (.iconst 2, 1) := by decide +kernel
theorem dL_law_197 : decode cL_law 197 = .ok (.iadd, 1) := by decide +kernel
theorem dL_law_198 : decode cL_law 198 = .ok (.iaload, 1) := by decide +kernel
theorem dL_law_199 : decode cL_law 199 = .ok (.i2l, 1) := by decide +kernel
theorem dL_law_200 : decode cL_law 200 = .ok (.ldc2_w 32, 3) := by decide +kernel
theorem dL_law_203 : decode cL_law 203 = .ok (.land, 1) := by decide +kernel
theorem dL_law_204 : decode cL_law 204 = .ok (.lor, 1) := by decide +kernel
theorem dL_law_205 : decode cL_law 205 = .ok (.aload_n 0, 1) := by decide +kernel
theorem dL_law_206 : decode cL_law 206 = .ok (.iload 4, 2) := by decide +kernel
theorem dL_law_208 : decode cL_law 208 = .ok (.iconst 3, 1) := by decide +kernel
theorem dL_law_209 : decode cL_law 209 = .ok (.iadd, 1) := by decide +kernel
theorem dL_law_210 : decode cL_law 210 = .ok (.iaload, 1) := by decide +kernel
theorem dL_law_211 : decode cL_law 211 = .ok (.invokevirtual 38, 3) := by decide +kernel
theorem dL_law_214 : decode cL_law 214 = .ok (.pop, 1) := by decide +kernel
theorem dL_law_215 : decode cL_law 215 = .ok (.goto 379, 3) := by decide +kernel
theorem dL_law_218 : decode cL_law 218 = .ok (.aload_n 1, 1) := by decide +kernel
theorem dL_law_219 : decode cL_law 219 = .ok (.invokevirtual 39, 3) := by decide +kernel
theorem dL_law_222 : decode cL_law 222 = .ok (.pop, 1) := by decide +kernel
theorem dL_law_223 : decode cL_law 223 = .ok (.aload_n 2, 1) := by decide +kernel
theorem dL_law_224 : decode cL_law 224 = .ok (.invokevirtual 43, 3) := by decide +kernel
theorem dL_law_227 : decode cL_law 227 = .ok (.pop, 1) := by decide +kernel
theorem dL_law_228 : decode cL_law 228 = .ok (.goto 366, 3) := by decide +kernel
theorem dL_law_231 : decode cL_law 231 = .ok (.aload_n 1, 1) := by decide +kernel
theorem dL_law_232 : decode cL_law 232 = .ok (.aload_n 0, 1) := by decide +kernel
theorem dL_law_233 : decode cL_law 233 = .ok (.iload 4, 2) := by decide +kernel
theorem dL_law_235 : decode cL_law 235 = .ok (.iconst 1, 1) := by decide +kernel
theorem dL_law_236 : decode cL_law 236 = .ok (.iadd, 1) := by decide +kernel
theorem dL_law_237 : decode cL_law 237 = .ok (.iaload, 1) := by decide +kernel
theorem dL_law_238 : decode cL_law 238 = .ok (.aload_n 0, 1) := by decide +kernel
theorem dL_law_239 : decode cL_law 239 = .ok (.iload 4, 2) := by decide +kernel
theorem dL_law_241 : decode cL_law 241 = .ok (.iconst 2, 1) := by decide +kernel
theorem dL_law_242 : decode cL_law 242 = .ok (.iadd, 1) := by decide +kernel
theorem dL_law_243 : decode cL_law 243 = .ok (.iaload, 1) := by decide +kernel
theorem dL_law_244 : decode cL_law 244 = .ok (.invokevirtual 44, 3) := by decide +kernel
theorem dL_law_247 : decode cL_law 247 = .ok (.pop, 1) := by decide +kernel
theorem dL_law_248 : decode cL_law 248 = .ok (.aload_n 2, 1) := by decide +kernel
theorem dL_law_249 : decode cL_law 249 = .ok (.aload_n 0, 1) := by decide +kernel
theorem dL_law_250 : decode cL_law 250 = .ok (.iload 4, 2) := by decide +kernel
theorem dL_law_252 : decode cL_law 252 = .ok (.iconst 1, 1) := by decide +kernel
theorem dL_law_253 : decode cL_law 253 = .ok (.iadd, 1) := by decide +kernel
theorem dL_law_254 : decode cL_law 254 = .ok (.iaload, 1) := by decide +kernel
theorem dL_law_255 : decode cL_law 255 = .ok (.aload_n 0, 1) := by decide +kernel
theorem dL_law_256 : decode cL_law 256 = .ok (.iload 4, 2) := by decide +kernel
theorem dL_law_258 : decode cL_law 258 = .ok (.iconst 2, 1) := by decide +kernel
theorem dL_law_259 : decode cL_law 259 = .ok (.iadd, 1) := by decide +kernel
theorem dL_law_260 : decode cL_law 260 = .ok (.iaload, 1) := by decide +kernel
theorem dL_law_261 : decode cL_law 261 = .ok (.invokevirtual 47, 3) := by decide +kernel
theorem dL_law_264 : decode cL_law 264 = .ok (.pop, 1) := by decide +kernel
theorem dL_law_265 : decode cL_law 265 = .ok (.goto 329, 3) := by decide +kernel
theorem dL_law_268 : decode cL_law 268 = .ok (.aload_n 1, 1) := by decide +kernel
theorem dL_law_269 : decode cL_law 269 = .ok (.invokevirtual 48, 3) := by decide +kernel
theorem dL_law_272 : decode cL_law 272 = .ok (.pop, 1) := by decide +kernel
theorem dL_law_273 : decode cL_law 273 = .ok (.aload_n 2, 1) := by decide +kernel
theorem dL_law_274 : decode cL_law 274 = .ok (.invokevirtual 51, 3) := by decide +kernel
theorem dL_law_277 : decode cL_law 277 = .ok (.pop, 1) := by decide +kernel
theorem dL_law_278 : decode cL_law 278 = .ok (.goto 316, 3) := by decide +kernel
theorem dL_law_281 : decode cL_law 281 = .ok (.aload_n 1, 1) := by decide +kernel
theorem dL_law_282 : decode cL_law 282 = .ok (.aload_n 0, 1) := by decide +kernel
theorem dL_law_283 : decode cL_law 283 = .ok (.iload 4, 2) := by decide +kernel
theorem dL_law_285 : decode cL_law 285 = .ok (.iconst 1, 1) := by decide +kernel
theorem dL_law_286 : decode cL_law 286 = .ok (.iadd, 1) := by decide +kernel
theorem dL_law_287 : decode cL_law 287 = .ok (.iaload, 1) := by decide +kernel
theorem dL_law_288 : decode cL_law 288 = .ok (.aload_n 0, 1) := by decide +kernel
theorem dL_law_289 : decode cL_law 289 = .ok (.iload 4, 2) := by decide +kernel
theorem dL_law_291 : decode cL_law 291 = .ok (.iconst 2, 1) := by decide +kernel
theorem dL_law_292 : decode cL_law 292 = .ok (.iadd, 1) := by decide +kernel
theorem dL_law_293 : decode cL_law 293 = .ok (.iaload, 1) := by decide +kernel
theorem dL_law_294 : decode cL_law 294 = .ok (.invokevirtual 52, 3) := by decide +kernel
theorem dL_law_297 : decode cL_law 297 = .ok (.pop, 1) := by decide +kernel
theorem dL_law_298 : decode cL_law 298 = .ok (.aload_n 2, 1) := by decide +kernel
theorem dL_law_299 : decode cL_law 299 = .ok (.aload_n 0, 1) := by decide +kernel
theorem dL_law_300 : decode cL_law 300 = .ok (.iload 4, 2) := by decide +kernel
theorem dL_law_302 : decode cL_law 302 = .ok (.iconst 1, 1) := by decide +kernel
theorem dL_law_303 : decode cL_law 303 = .ok (.iadd, 1) := by decide +kernel
theorem dL_law_304 : decode cL_law 304 = .ok (.iaload, 1) := by decide +kernel
theorem dL_law_305 : decode cL_law 305 = .ok (.aload_n 0, 1) := by decide +kernel
theorem dL_law_306 : decode cL_law 306 = .ok (.iload 4, 2) := by decide +kernel
theorem dL_law_308 : decode cL_law 308 = .ok (.iconst 2, 1) := by decide +kernel
theorem dL_law_309 : decode cL_law 309 = .ok (.iadd, 1) := by decide +kernel
theorem dL_law_310 : decode cL_law 310 = .ok (.iaload, 1) := by decide +kernel
theorem dL_law_311 : decode cL_law 311 = .ok (.invokevirtual 55, 3) := by decide +kernel
theorem dL_law_314 : decode cL_law 314 = .ok (.pop, 1) := by decide +kernel
theorem dL_law_315 : decode cL_law 315 = .ok (.goto 279, 3) := by decide +kernel
theorem dL_law_318 : decode cL_law 318 = .ok (.aload_n 1, 1) := by decide +kernel
theorem dL_law_319 : decode cL_law 319 = .ok (.invokevirtual 56, 3) := by decide +kernel
theorem dL_law_322 : decode cL_law 322 = .ok (.pop, 1) := by decide +kernel
theorem dL_law_323 : decode cL_law 323 = .ok (.aload_n 2, 1) := by decide +kernel
theorem dL_law_324 : decode cL_law 324 = .ok (.invokevirtual 59, 3) := by decide +kernel
theorem dL_law_327 : decode cL_law 327 = .ok (.pop, 1) := by decide +kernel
theorem dL_law_328 : decode cL_law 328 = .ok (.goto 266, 3) := by decide +kernel
theorem dL_law_331 : decode cL_law 331 = .ok (.aload_n 1, 1) := by decide +kernel
theorem dL_law_332 : decode cL_law 332 = .ok (.aload_n 0, 1) := by decide +kernel
theorem dL_law_333 : decode cL_law 333 = .ok (.iload 4, 2) := by decide +kernel
theorem dL_law_335 : decode cL_law 335 = .ok (.iconst 1, 1) := by decide +kernel
theorem dL_law_336 : decode cL_law 336 = .ok (.iadd, 1) := by decide +kernel
theorem dL_law_337 : decode cL_law 337 = .ok (.iaload, 1) := by decide +kernel
theorem dL_law_338 : decode cL_law 338 = .ok (.aload_n 0, 1) := by decide +kernel
theorem dL_law_339 : decode cL_law 339 = .ok (.iload 4, 2) := by decide +kernel
theorem dL_law_341 : decode cL_law 341 = .ok (.iconst 2, 1) := by decide +kernel
theorem dL_law_342 : decode cL_law 342 = .ok (.iadd, 1) := by decide +kernel
theorem dL_law_343 : decode cL_law 343 = .ok (.iaload, 1) := by decide +kernel
theorem dL_law_344 : decode cL_law 344 = .ok (.aload_n 3, 1) := by decide +kernel
theorem dL_law_345 : decode cL_law 345 = .ok (.invokestatic 60, 3) := by decide +kernel
theorem dL_law_348 : decode cL_law 348 = .ok (.istore 5, 2) := by decide +kernel
theorem dL_law_350 : decode cL_law 350 = .ok (.aload_n 2, 1) := by decide +kernel
theorem dL_law_351 : decode cL_law 351 = .ok (.aload_n 0, 1) := by decide +kernel
theorem dL_law_352 : decode cL_law 352 = .ok (.iload 4, 2) := by decide +kernel
theorem dL_law_354 : decode cL_law 354 = .ok (.iconst 1, 1) := by decide +kernel
theorem dL_law_355 : decode cL_law 355 = .ok (.iadd, 1) := by decide +kernel
theorem dL_law_356 : decode cL_law 356 = .ok (.iaload, 1) := by decide +kernel
theorem dL_law_357 : decode cL_law 357 = .ok (.aload_n 0, 1) := by decide +kernel
theorem dL_law_358 : decode cL_law 358 = .ok (.iload 4, 2) := by decide +kernel
theorem dL_law_360 : decode cL_law 360 = .ok (.iconst 2, 1) := by decide +kernel
theorem dL_law_361 : decode cL_law 361 = .ok (.iadd, 1) := by decide +kernel
theorem dL_law_362 : decode cL_law 362 = .ok (.iaload, 1) := by decide +kernel
theorem dL_law_363 : decode cL_law 363 = .ok (.invokevirtual 63, 3) := by decide +kernel
theorem dL_law_366 : decode cL_law 366 = .ok (.istore 6, 2) := by decide +kernel
theorem dL_law_368 : decode cL_law 368 = .ok (.goto 226, 3) := by decide +kernel
theorem dL_law_371 : decode cL_law 371 = .ok (.aload_n 1, 1) := by decide +kernel
theorem dL_law_372 : decode cL_law 372 = .ok (.aload_n 0, 1) := by decide +kernel
theorem dL_law_373 : decode cL_law 373 = .ok (.iload 4, 2) := by decide +kernel
theorem dL_law_375 : decode cL_law 375 = .ok (.iconst 1, 1) := by decide +kernel
theorem dL_law_376 : decode cL_law 376 = .ok (.iadd, 1) := by decide +kernel
theorem dL_law_377 : decode cL_law 377 = .ok (.iaload, 1) := by decide +kernel
theorem dL_law_378 : decode cL_law 378 = .ok (.aload_n 0, 1) := by decide +kernel
theorem dL_law_379 : decode cL_law 379 = .ok (.iload 4, 2) := by decide +kernel
theorem dL_law_381 : decode cL_law 381 = .ok (.iconst 2, 1) := by decide +kernel
theorem dL_law_382 : decode cL_law 382 = .ok (.iadd, 1) := by decide +kernel
theorem dL_law_383 : decode cL_law 383 = .ok (.iaload, 1) := by decide +kernel
theorem dL_law_384 : decode cL_law 384 = .ok (.invokevirtual 64, 3) := by decide +kernel
theorem dL_law_387 : decode cL_law 387 = .ok (.pop, 1) := by decide +kernel
theorem dL_law_388 : decode cL_law 388 = .ok (.aload_n 2, 1) := by decide +kernel
theorem dL_law_389 : decode cL_law 389 = .ok (.aload_n 0, 1) := by decide +kernel
theorem dL_law_390 : decode cL_law 390 = .ok (.iload 4, 2) := by decide +kernel
theorem dL_law_392 : decode cL_law 392 = .ok (.iconst 1, 1) := by decide +kernel
theorem dL_law_393 : decode cL_law 393 = .ok (.iadd, 1) := by decide +kernel
theorem dL_law_394 : decode cL_law 394 = .ok (.iaload, 1) := by decide +kernel
theorem dL_law_395 : decode cL_law 395 = .ok (.aload_n 0, 1) := by decide +kernel
theorem dL_law_396 : decode cL_law 396 = .ok (.iload 4, 2) := by decide +kernel
theorem dL_law_398 : decode cL_law 398 = .ok (.iconst 2, 1) := by decide +kernel
theorem dL_law_399 : decode cL_law 399 = .ok (.iadd, 1) := by decide +kernel
theorem dL_law_400 : decode cL_law 400 = .ok (.iaload, 1) := by decide +kernel
theorem dL_law_401 : decode cL_law 401 = .ok (.invokevirtual 67, 3) := by decide +kernel
theorem dL_law_404 : decode cL_law 404 = .ok (.pop, 1) := by decide +kernel
theorem dL_law_405 : decode cL_law 405 = .ok (.goto 189, 3) := by decide +kernel
theorem dL_law_408 : decode cL_law 408 = .ok (.aload_n 1, 1) := by decide +kernel
theorem dL_law_409 : decode cL_law 409 = .ok (.aload_n 0, 1) := by decide +kernel
theorem dL_law_410 : decode cL_law 410 = .ok (.iload 4, 2) := by decide +kernel
theorem dL_law_412 : decode cL_law 412 = .ok (.iconst 1, 1) := by decide +kernel
theorem dL_law_413 : decode cL_law 413 = .ok (.iadd, 1) := by decide +kernel
theorem dL_law_414 : decode cL_law 414 = .ok (.iaload, 1) := by decide +kernel
theorem dL_law_415 : decode cL_law 415 = .ok (.invokevirtual 68, 3) := by decide +kernel
theorem dL_law_418 : decode cL_law 418 = .ok (.pop, 1) := by decide +kernel
theorem dL_law_419 : decode cL_law 419 = .ok (.aload_n 2, 1) := by decide +kernel
theorem dL_law_420 : decode cL_law 420 = .ok (.aload_n 0, 1) := by decide +kernel
theorem dL_law_421 : decode cL_law 421 = .ok (.iload 4, 2) := by decide +kernel
theorem dL_law_423 : decode cL_law 423 = .ok (.iconst 1, 1) := by decide +kernel
theorem dL_law_424 : decode cL_law 424 = .ok (.iadd, 1) := by decide +kernel
theorem dL_law_425 : decode cL_law 425 = .ok (.iaload, 1) := by decide +kernel
theorem dL_law_426 : decode cL_law 426 = .ok (.invokevirtual 71, 3) := by decide +kernel
theorem dL_law_429 : decode cL_law 429 = .ok (.pop, 1) := by decide +kernel
theorem dL_law_430 : decode cL_law 430 = .ok (.goto 164, 3) := by decide +kernel
theorem dL_law_433 : decode cL_law 433 = .ok (.aload_n 1, 1) := by decide +kernel
theorem dL_law_434 : decode cL_law 434 = .ok (.aload_n 0, 1) := by decide +kernel
theorem dL_law_435 : decode cL_law 435 = .ok (.iload 4, 2) := by decide +kernel
theorem dL_law_437 : decode cL_law 437 = .ok (.iconst 1, 1) := by decide +kernel
theorem dL_law_438 : decode cL_law 438 = .ok (.iadd, 1) := by decide +kernel
theorem dL_law_439 : decode cL_law 439 = .ok (.iaload, 1) := by decide +kernel
theorem dL_law_440 : decode cL_law 440 = .ok (.aload_n 0, 1) := by decide +kernel
theorem dL_law_441 : decode cL_law 441 = .ok (.iload 4, 2) := by decide +kernel
theorem dL_law_443 : decode cL_law 443 = .ok (.iconst 2, 1) := by decide +kernel
theorem dL_law_444 : decode cL_law 444 = .ok (.iadd, 1) := by decide +kernel
theorem dL_law_445 : decode cL_law 445 = .ok (.iaload, 1) := by decide +kernel
theorem dL_law_446 : decode cL_law 446 = .ok (.aload_n 0, 1) := by decide +kernel
theorem dL_law_447 : decode cL_law 447 = .ok (.iload 4, 2) := by decide +kernel
theorem dL_law_449 : decode cL_law 449 = .ok (.iconst 3, 1) := by decide +kernel
theorem dL_law_450 : decode cL_law 450 = .ok (.iadd, 1) := by decide +kernel
theorem dL_law_451 : decode cL_law 451 = .ok (.iaload, 1) := by decide +kernel
theorem dL_law_452 : decode cL_law 452 = .ok (.invokevirtual 72, 3) := by decide +kernel
theorem dL_law_455 : decode cL_law 455 = .ok (.pop, 1) := by decide +kernel
theorem dL_law_456 : decode cL_law 456 = .ok (.aload_n 2, 1) := by decide +kernel
theorem dL_law_457 : decode cL_law 457 = .ok (.aload_n 0, 1) := by decide +kernel
theorem dL_law_458 : decode cL_law 458 = .ok (.iload 4, 2) := by decide +kernel
theorem dL_law_460 : decode cL_law 460 = .ok (.iconst 1, 1) := by decide +kernel
theorem dL_law_461 : decode cL_law 461 = .ok (.iadd, 1) := by decide +kernel
theorem dL_law_462 : decode cL_law 462 = .ok (.iaload, 1) := by decide +kernel
theorem dL_law_463 : decode cL_law 463 = .ok (.aload_n 0, 1) := by decide +kernel
theorem dL_law_464 : decode cL_law 464 = .ok (.iload 4, 2) := by decide +kernel
theorem dL_law_466 : decode cL_law 466 = .ok (.iconst 2, 1) := by decide +kernel
theorem dL_law_467 : decode cL_law 467 = .ok (.iadd, 1) := by decide +kernel
theorem dL_law_468 : decode cL_law 468 = .ok (.iaload, 1) := by decide +kernel
theorem dL_law_469 : decode cL_law 469 = .ok (.aload_n 0, 1) := by decide +kernel
theorem dL_law_470 : decode cL_law 470 = .ok (.iload 4, 2) := by decide +kernel
theorem dL_law_472 : decode cL_law 472 = .ok (.iconst 3, 1) := by decide +kernel
theorem dL_law_473 : decode cL_law 473 = .ok (.iadd, 1) := by decide +kernel
theorem dL_law_474 : decode cL_law 474 = .ok (.iaload, 1) := by decide +kernel
theorem dL_law_475 : decode cL_law 475 = .ok (.invokevirtual 76, 3) := by decide +kernel
theorem dL_law_478 : decode cL_law 478 = .ok (.pop, 1) := by decide +kernel
theorem dL_law_479 : decode cL_law 479 = .ok (.goto 115, 3) := by decide +kernel
theorem dL_law_482 : decode cL_law 482 = .ok (.aload_n 1, 1) := by decide +kernel
theorem dL_law_483 : decode cL_law 483 = .ok (.aload_n 0, 1) := by decide +kernel
theorem dL_law_484 : decode cL_law 484 = .ok (.iload 4, 2) := by decide +kernel
theorem dL_law_486 : decode cL_law 486 = .ok (.iconst 1, 1) := by decide +kernel
theorem dL_law_487 : decode cL_law 487 = .ok (.iadd, 1) := by decide +kernel
theorem dL_law_488 : decode cL_law 488 = .ok (.iaload, 1) := by decide +kernel
theorem dL_law_489 : decode cL_law 489 = .ok (.aload_n 0, 1) := by decide +kernel
theorem dL_law_490 : decode cL_law 490 = .ok (.iload 4, 2) := by decide +kernel
theorem dL_law_492 : decode cL_law 492 = .ok (.iconst 2, 1) := by decide +kernel
theorem dL_law_493 : decode cL_law 493 = .ok (.iadd, 1) := by decide +kernel
theorem dL_law_494 : decode cL_law 494 = .ok (.iaload, 1) := by decide +kernel
theorem dL_law_495 : decode cL_law 495 = .ok (.invokevirtual 77, 3) := by decide +kernel
theorem dL_law_498 : decode cL_law 498 = .ok (.aload_n 2, 1) := by decide +kernel
theorem dL_law_499 : decode cL_law 499 = .ok (.aload_n 0, 1) := by decide +kernel
theorem dL_law_500 : decode cL_law 500 = .ok (.iload 4, 2) := by decide +kernel
theorem dL_law_502 : decode cL_law 502 = .ok (.iconst 1, 1) := by decide +kernel
theorem dL_law_503 : decode cL_law 503 = .ok (.iadd, 1) := by decide +kernel
theorem dL_law_504 : decode cL_law 504 = .ok (.iaload, 1) := by decide +kernel
theorem dL_law_505 : decode cL_law 505 = .ok (.aload_n 0, 1) := by decide +kernel
theorem dL_law_506 : decode cL_law 506 = .ok (.iload 4, 2) := by decide +kernel
theorem dL_law_508 : decode cL_law 508 = .ok (.iconst 2, 1) := by decide +kernel
theorem dL_law_509 : decode cL_law 509 = .ok (.iadd, 1) := by decide +kernel
theorem dL_law_510 : decode cL_law 510 = .ok (.iaload, 1) := by decide +kernel
theorem dL_law_511 : decode cL_law 511 = .ok (.invokevirtual 80, 3) := by decide +kernel
theorem dL_law_514 : decode cL_law 514 = .ok (.if_icmp .eq 80, 3) := by decide +kernel
theorem dL_law_517 : decode cL_law 517 = .ok (.iconst 0, 1) := by decide +kernel
theorem dL_law_518 : decode cL_law 518 = .ok (.ireturn, 1) := by decide +kernel
theorem dL_law_519 : decode cL_law 519 = .ok (.aload_n 1, 1) := by decide +kernel
theorem dL_law_520 : decode cL_law 520 = .ok (.aload_n 0, 1) := by decide +kernel
theorem dL_law_521 : decode cL_law 521 = .ok (.iload 4, 2) := by decide +kernel
theorem dL_law_523 : decode cL_law 523 = .ok (.iconst 1, 1) := by decide +kernel
theorem dL_law_524 : decode cL_law 524 = .ok (.iadd, 1) := by decide +kernel
theorem dL_law_525 : decode cL_law 525 = .ok (.iaload, 1) := by decide +kernel
theorem dL_law_526 : decode cL_law 526 = .ok (.invokevirtual 81, 3) := by decide +kernel
theorem dL_law_529 : decode cL_law 529 = .ok (.pop, 1) := by decide +kernel
theorem dL_law_530 : decode cL_law 530 = .ok (.aload_n 2, 1) := by decide +kernel
theorem dL_law_531 : decode cL_law 531 = .ok (.aload_n 0, 1) := by decide +kernel
theorem dL_law_532 : decode cL_law 532 = .ok (.iload 4, 2) := by decide +kernel
theorem dL_law_534 : decode cL_law 534 = .ok (.iconst 1, 1) := by decide +kernel
theorem dL_law_535 : decode cL_law 535 = .ok (.iadd, 1) := by decide +kernel
theorem dL_law_536 : decode cL_law 536 = .ok (.iaload, 1) := by decide +kernel
theorem dL_law_537 : decode cL_law 537 = .ok (.invokevirtual 84, 3) := by decide +kernel
theorem dL_law_540 : decode cL_law 540 = .ok (.pop, 1) := by decide +kernel
theorem dL_law_541 : decode cL_law 541 = .ok (.goto 53, 3) := by decide +kernel
theorem dL_law_544 : decode cL_law 544 = .ok (.aload_n 1, 1) := by decide +kernel
theorem dL_law_545 : decode cL_law 545 = .ok (.aload_n 0, 1) := by decide +kernel
theorem dL_law_546 : decode cL_law 546 = .ok (.iload 4, 2) := by decide +kernel
theorem dL_law_548 : decode cL_law 548 = .ok (.iconst 1, 1) := by decide +kernel
theorem dL_law_549 : decode cL_law 549 = .ok (.iadd, 1) := by decide +kernel
theorem dL_law_550 : decode cL_law 550 = .ok (.iaload, 1) := by decide +kernel
theorem dL_law_551 : decode cL_law 551 = .ok (.invokevirtual 85, 3) := by decide +kernel
theorem dL_law_554 : decode cL_law 554 = .ok (.pop, 1) := by decide +kernel
theorem dL_law_555 : decode cL_law 555 = .ok (.aload_n 2, 1) := by decide +kernel
theorem dL_law_556 : decode cL_law 556 = .ok (.aload_n 0, 1) := by decide +kernel
theorem dL_law_557 : decode cL_law 557 = .ok (.iload 4, 2) := by decide +kernel
theorem dL_law_559 : decode cL_law 559 = .ok (.iconst 1, 1) := by decide +kernel
theorem dL_law_560 : decode cL_law 560 = .ok (.iadd, 1) := by decide +kernel
theorem dL_law_561 : decode cL_law 561 = .ok (.iaload, 1) := by decide +kernel
theorem dL_law_562 : decode cL_law 562 = .ok (.invokevirtual 88, 3) := by decide +kernel
theorem dL_law_565 : decode cL_law 565 = .ok (.pop, 1) := by decide +kernel
theorem dL_law_566 : decode cL_law 566 = .ok (.goto 28, 3) := by decide +kernel
theorem dL_law_569 : decode cL_law 569 = .ok (.aload_n 1, 1) := by decide +kernel
theorem dL_law_570 : decode cL_law 570 = .ok (.aload_n 0, 1) := by decide +kernel
theorem dL_law_571 : decode cL_law 571 = .ok (.iload 4, 2) := by decide +kernel
theorem dL_law_573 : decode cL_law 573 = .ok (.iconst 1, 1) := by decide +kernel
theorem dL_law_574 : decode cL_law 574 = .ok (.iadd, 1) := by decide +kernel
theorem dL_law_575 : decode cL_law 575 = .ok (.iaload, 1) := by decide +kernel
theorem dL_law_576 : decode cL_law 576 = .ok (.invokevirtual 89, 3) := by decide +kernel
theorem dL_law_579 : decode cL_law 579 = .ok (.pop, 1) := by decide +kernel
theorem dL_law_580 : decode cL_law 580 = .ok (.aload_n 2, 1) := by decide +kernel
theorem dL_law_581 : decode cL_law 581 = .ok (.aload_n 0, 1) := by decide +kernel
theorem dL_law_582 : decode cL_law 582 = .ok (.iload 4, 2) := by decide +kernel
theorem dL_law_584 : decode cL_law 584 = .ok (.iconst 1, 1) := by decide +kernel
theorem dL_law_585 : decode cL_law 585 = .ok (.iadd, 1) := by decide +kernel
theorem dL_law_586 : decode cL_law 586 = .ok (.iaload, 1) := by decide +kernel
theorem dL_law_587 : decode cL_law 587 = .ok (.invokevirtual 92, 3) := by decide +kernel
theorem dL_law_590 : decode cL_law 590 = .ok (.pop, 1) := by decide +kernel
theorem dL_law_591 : decode cL_law 591 = .ok (.goto 3, 3) := by decide +kernel
theorem dL_law_594 : decode cL_law 594 = .ok (.iinc 4 4, 3) := by decide +kernel
theorem dL_law_597 : decode cL_law 597 = .ok (.goto (-564), 3) := by decide +kernel
theorem dL_law_600 : decode cL_law 600 = .ok (.iconst 1, 1) := by decide +kernel
theorem dL_law_601 : decode cL_law 601 = .ok (.ireturn, 1) := by decide +kernel
end
section
theorem dX0_cell_0 : decode cX0_cell 0 = .ok (.iload_n 1, 1) := by decide +kernel
theorem dX0_cell_1 : decode cX0_cell 1 = .ok (.ifCond .lt 18, 3) := by decide +kernel
theorem dX0_cell_4 : decode cX0_cell 4 = .ok (.iload_n 1, 1) := by decide +kernel
theorem dX0_cell_5 : decode cX0_cell 5 = .ok (.bipush 32, 2) := by decide +kernel
theorem dX0_cell_7 : decode cX0_cell 7 = .ok (.if_icmp .ge 12, 3) := by decide +kernel
theorem dX0_cell_10 : decode cX0_cell 10 = .ok (.aload_n 0, 1) := by decide +kernel
theorem dX0_cell_11 : decode cX0_cell 11 = .ok (.getfield 9, 3) := by decide +kernel
theorem dX0_cell_14 : decode cX0_cell 14 = .ok (.iload_n 1, 1) := by decide +kernel
theorem dX0_cell_15 : decode cX0_cell 15 = .ok (.iaload, 1) := by decide +kernel
theorem dX0_cell_16 : decode cX0_cell 16 = .ok (.goto 4, 3) := by decide +kernel
theorem dX0_cell_19 : decode cX0_cell 19 = .ok (.iconst 0, 1) := by decide +kernel
theorem dX0_cell_20 : decode cX0_cell 20 = .ok (.ireturn, 1) := by decide +kernel
theorem dX0_init_0 : decode cX0_init 0 = .ok (.aload_n 0, 1) := by decide +kernel
theorem dX0_init_1 : decode cX0_init 1 = .ok (.invokespecial 3, 3) := by decide +kernel
theorem dX0_init_4 : decode cX0_init 4 = .ok (.aload_n 0, 1) := by decide +kernel
theorem dX0_init_5 : decode cX0_init 5 = .ok (.bipush 32, 2) := by decide +kernel
theorem dX0_init_7 : decode cX0_init 7 = .ok (.newarray .int, 2) := by decide +kernel
theorem dX0_init_9 : decode cX0_init 9 = .ok (.putfield 9, 3) := by decide +kernel
theorem dX0_init_12 : decode cX0_init 12 = .ok (.return_, 1) := by decide +kernel
theorem dX0_setContent_0 : decode cX0_setContent 0 = .ok (.iload_n 1, 1) := by decide +kernel
theorem dX0_setContent_1 : decode cX0_setContent 1 = .ok (.ifCond .lt 22, 3) := by decide +kernel
theorem dX0_setContent_4 : decode cX0_setContent 4 = .ok (.iload_n 1, 1) := by decide +kernel
theorem dX0_setContent_5 : decode cX0_setContent 5 = .ok (.bipush 24, 2) := by decide +kernel
theorem dX0_setContent_7 : decode cX0_setContent 7 = .ok (.if_icmp .ge 16, 3) := by decide +kernel
theorem dX0_setContent_10 : decode cX0_setContent 10 = .ok (.aload_n 0, 1) := by decide +kernel
theorem dX0_setContent_11 : decode cX0_setContent 11 = .ok (.getfield 9, 3) := by decide +kernel
theorem dX0_setContent_14 : decode cX0_setContent 14 = .ok (.iconst 4, 1) := by decide +kernel
theorem dX0_setContent_15 : decode cX0_setContent 15 = .ok (.iload_n 1, 1) := by decide +kernel
theorem dX0_setContent_16 : decode cX0_setContent 16 = .ok (.iadd, 1) := by decide +kernel
theorem dX0_setContent_17 : decode cX0_setContent 17 = .ok (.iload_n 2, 1) := by decide +kernel
theorem dX0_setContent_18 : decode cX0_setContent 18 = .ok (.sipush 255, 3) := by decide +kernel
theorem dX0_setContent_21 : decode cX0_setContent 21 = .ok (.iand, 1) := by decide +kernel
theorem dX0_setContent_22 : decode cX0_setContent 22 = .ok (.iastore, 1) := by decide +kernel
theorem dX0_setContent_23 : decode cX0_setContent 23 = .ok (.return_, 1) := by decide +kernel
theorem dX0_begin_0 : decode cX0_begin 0 = .ok (.aload_n 0, 1) := by decide +kernel
theorem dX0_begin_1 : decode cX0_begin 1 = .ok (.getfield 9, 3) := by decide +kernel
theorem dX0_begin_4 : decode cX0_begin 4 = .ok (.iconst 0, 1) := by decide +kernel
theorem dX0_begin_5 : decode cX0_begin 5 = .ok (.invokestatic 15, 3) := by decide +kernel
theorem dX0_begin_8 : decode cX0_begin 8 = .ok (.aload_n 0, 1) := by decide +kernel
theorem dX0_begin_9 : decode cX0_begin 9 = .ok (.getfield 9, 3) := by decide +kernel
theorem dX0_begin_12 : decode cX0_begin 12 = .ok (.iconst 0, 1) := by decide +kernel
theorem dX0_begin_13 : decode cX0_begin 13 = .ok (.iload_n 1, 1) := by decide +kernel
theorem dX0_begin_14 : decode cX0_begin 14 = .ok (.iastore, 1) := by decide +kernel
theorem dX0_begin_15 : decode cX0_begin 15 = .ok (.aload_n 0, 1) := by decide +kernel
theorem dX0_begin_16 : decode cX0_begin 16 = .ok (.getfield 9, 3) := by decide +kernel
theorem dX0_begin_19 : decode cX0_begin 19 = .ok (.iconst 1, 1) := by decide +kernel
theorem dX0_begin_20 : decode cX0_begin 20 = .ok (.iload_n 2, 1) := by decide +kernel
theorem dX0_begin_21 : decode cX0_begin 21 = .ok (.iastore, 1) := by decide +kernel
theorem dX0_begin_22 : decode cX0_begin 22 = .ok (.aload_n 0, 1) := by decide +kernel
theorem dX0_begin_23 : decode cX0_begin 23 = .ok (.getfield 9, 3) := by decide +kernel
theorem dX0_begin_26 : decode cX0_begin 26 = .ok (.iconst 2, 1) := by decide +kernel
theorem dX0_begin_27 : decode cX0_begin 27 = .ok (.iload_n 3, 1) := by decide +kernel
theorem dX0_begin_28 : decode cX0_begin 28 = .ok (.iastore, 1) := by decide +kernel
theorem dX0_begin_29 : decode cX0_begin 29 = .ok (.aload_n 0, 1) := by decide +kernel
theorem dX0_begin_30 : decode cX0_begin 30 = .ok (.getfield 9, 3) := by decide +kernel
theorem dX0_begin_33 : decode cX0_begin 33 = .ok (.iconst 3, 1) := by decide +kernel
theorem dX0_begin_34 : decode cX0_begin 34 = .ok (.iload 4, 2) := by decide +kernel
theorem dX0_begin_36 : decode cX0_begin 36 = .ok (.iastore, 1) := by decide +kernel
theorem dX0_begin_37 : decode cX0_begin 37 = .ok (.return_, 1) := by decide +kernel
theorem dX0_seal_0 : decode cX0_seal 0 = .ok (.aload_n 0, 1) := by decide +kernel
theorem dX0_seal_1 : decode cX0_seal 1 = .ok (.getfield 9, 3) := by decide +kernel
theorem dX0_seal_4 : decode cX0_seal 4 = .ok (.iconst 0, 1) := by decide +kernel
theorem dX0_seal_5 : decode cX0_seal 5 = .ok (.invokestatic 21, 3) := by decide +kernel
theorem dX0_seal_8 : decode cX0_seal 8 = .ok (.istore_n 1, 1) := by decide +kernel
theorem dX0_seal_9 : decode cX0_seal 9 = .ok (.iconst 0, 1) := by decide +kernel
theorem dX0_seal_10 : decode cX0_seal 10 = .ok (.istore_n 2, 1) := by decide +kernel
theorem dX0_seal_11 : decode cX0_seal 11 = .ok (.iload_n 2, 1) := by decide +kernel
theorem dX0_seal_12 : decode cX0_seal 12 = .ok (.iconst 4, 1) := by decide +kernel
theorem dX0_seal_13 : decode cX0_seal 13 = .ok (.if_icmp .ge 31, 3) := by decide +kernel
theorem dX0_seal_16 : decode cX0_seal 16 = .ok (.aload_n 0, 1) := by decide +kernel
theorem dX0_seal_17 : decode cX0_seal 17 = .ok (.getfield 9, 3) := by decide +kernel
theorem dX0_seal_20 : decode cX0_seal 20 = .ok (.bipush 28, 2) := by decide +kernel
theorem dX0_seal_22 : decode cX0_seal 22 = .ok (.iload_n 2, 1) := by decide +kernel
theorem dX0_seal_23 : decode cX0_seal 23 = .ok (.iadd, 1) := by decide +kernel
theorem dX0_seal_24 : decode cX0_seal 24 = .ok (.iload_n 1, 1) := by decide +kernel
theorem dX0_seal_25 : decode cX0_seal 25 = .ok (.bipush 24, 2) := by decide +kernel
theorem dX0_seal_27 : decode cX0_seal 27 = .ok (.bipush 8, 2) := by decide +kernel
theorem dX0_seal_29 : decode cX0_seal 29 = .ok (.iload_n 2, 1) := by decide +kernel
theorem dX0_seal_30 : decode cX0_seal 30 = .ok (.imul, 1) := by decide +kernel
theorem dX0_seal_31 : decode cX0_seal 31 = .ok (.isub, 1) := by decide +kernel
theorem dX0_seal_32 : decode cX0_seal 32 = .ok (.iushr, 1) := by decide +kernel
theorem dX0_seal_33 : decode cX0_seal 33 = .ok (.sipush 255, 3) := by decide +kernel
theorem dX0_seal_36 : decode cX0_seal 36 = .ok (.iand, 1) := by decide +kernel
theorem dX0_seal_37 : decode cX0_seal 37 = .ok (.iastore, 1) := by decide +kernel
theorem dX0_seal_38 : decode cX0_seal 38 = .ok (.iinc 2 1, 3) := by decide +kernel
theorem dX0_seal_41 : decode cX0_seal 41 = .ok (.goto (-30), 3) := by decide +kernel
theorem dX0_seal_44 : decode cX0_seal 44 = .ok (.return_, 1) := by decide +kernel
end
section
theorem dX1_twice_0 : decode cX1_twice 0 = .ok (.iload_n 0, 1) := by decide +kernel
theorem dX1_twice_1 : decode cX1_twice 1 = .ok (.iconst 1, 1) := by decide +kernel
theorem dX1_twice_2 : decode cX1_twice 2 = .ok (.ishl, 1) := by decide +kernel
theorem dX1_twice_3 : decode cX1_twice 3 = .ok (.istore_n 1, 1) := by decide +kernel
theorem dX1_twice_4 : decode cX1_twice 4 = .ok (.iload_n 1, 1) := by decide +kernel
theorem dX1_twice_5 : decode cX1_twice 5 = .ok (.sipush 255, 3) := by decide +kernel
theorem dX1_twice_8 : decode cX1_twice 8 = .ok (.if_icmp .le 11, 3) := by decide +kernel
theorem dX1_twice_11 : decode cX1_twice 11 = .ok (.iload_n 1, 1) := by decide +kernel
theorem dX1_twice_12 : decode cX1_twice 12 = .ok (.sipush 285, 3) := by decide +kernel
theorem dX1_twice_15 : decode cX1_twice 15 = .ok (.ixor, 1) := by decide +kernel
theorem dX1_twice_16 : decode cX1_twice 16 = .ok (.goto 4, 3) := by decide +kernel
theorem dX1_twice_19 : decode cX1_twice 19 = .ok (.iload_n 1, 1) := by decide +kernel
theorem dX1_twice_20 : decode cX1_twice 20 = .ok (.ireturn, 1) := by decide +kernel
theorem dX1_times_0 : decode cX1_times 0 = .ok (.iconst 0, 1) := by decide +kernel
theorem dX1_times_1 : decode cX1_times 1 = .ok (.istore_n 2, 1) := by decide +kernel
theorem dX1_times_2 : decode cX1_times 2 = .ok (.bipush 7, 2) := by decide +kernel
theorem dX1_times_4 : decode cX1_times 4 = .ok (.istore_n 3, 1) := by decide +kernel
theorem dX1_times_5 : decode cX1_times 5 = .ok (.iload_n 3, 1) := by decide +kernel
theorem dX1_times_6 : decode cX1_times 6 = .ok (.ifCond .lt 29, 3) := by decide +kernel
theorem dX1_times_9 : decode cX1_times 9 = .ok (.iload_n 2, 1) := by decide +kernel
theorem dX1_times_10 : decode cX1_times 10 = .ok (.invokestatic 7, 3) := by decide +kernel
theorem dX1_times_13 : decode cX1_times 13 = .ok (.iload_n 1, 1) := by decide +kernel
theorem dX1_times_14 : decode cX1_times 14 = .ok (.iload_n 3, 1) := by decide +kernel
theorem dX1_times_15 : decode cX1_times 15 = .ok (.ishr, 1) := by decide +kernel
theorem dX1_times_16 : decode cX1_times 16 = .ok (.iconst 1, 1) := by decide +kernel
theorem dX1_times_17 : decode cX1_times 17 = .ok (.iand, 1) := by decide +kernel
theorem dX1_times_18 : decode cX1_times 18 = .ok (.iconst 1, 1) := by decide +kernel
theorem dX1_times_19 : decode cX1_times 19 = .ok (.if_icmp .ne 7, 3) := by decide +kernel
theorem dX1_times_22 : decode cX1_times 22 = .ok (.iload_n 0, 1) := by decide +kernel
theorem dX1_times_23 : decode cX1_times 23 = .ok (.goto 4, 3) := by decide +kernel
theorem dX1_times_26 : decode cX1_times 26 = .ok (.iconst 0, 1) := by decide +kernel
theorem dX1_times_27 : decode cX1_times 27 = .ok (.ixor, 1) := by decide +kernel
theorem dX1_times_28 : decode cX1_times 28 = .ok (.istore_n 2, 1) := by decide +kernel
theorem dX1_times_29 : decode cX1_times 29 = .ok (.iinc 3 (-1), 3) := by decide +kernel
theorem dX1_times_32 : decode cX1_times 32 = .ok (.goto (-27), 3) := by decide +kernel
theorem dX1_times_35 : decode cX1_times 35 = .ok (.iload_n 2, 1) := by decide +kernel
theorem dX1_times_36 : decode cX1_times 36 = .ok (.ireturn, 1) := by decide +kernel
theorem dX1_inverse_0 : decode cX1_inverse 0 = .ok (.iconst 1, 1) := by decide +kernel
theorem dX1_inverse_1 : decode cX1_inverse 1 = .ok (.istore_n 1, 1) := by decide +kernel
theorem dX1_inverse_2 : decode cX1_inverse 2 = .ok (.iload_n 1, 1) := by decide +kernel
theorem dX1_inverse_3 : decode cX1_inverse 3 = .ok (.sipush 256, 3) := by decide +kernel
theorem dX1_inverse_6 : decode cX1_inverse 6 = .ok (.if_icmp .ge 20, 3) := by decide +kernel
theorem dX1_inverse_9 : decode cX1_inverse 9 = .ok (.iload_n 0, 1) := by decide +kernel
theorem dX1_inverse_10 : decode cX1_inverse 10 = .ok (.iload_n 1, 1) := by decide +kernel
theorem dX1_inverse_11 : decode cX1_inverse 11 = .ok (.invokestatic 13, 3) := by decide +kernel
theorem dX1_inverse_14 : decode cX1_inverse 14 = .ok (.iconst 1, 1) := by decide +kernel
theorem dX1_inverse_15 : decode cX1_inverse 15 = .ok (.if_icmp .ne 5, 3) := by decide +kernel
theorem dX1_inverse_18 : decode cX1_inverse 18 = .ok (.iload_n 1, 1) := by decide +kernel
theorem dX1_inverse_19 : decode cX1_inverse 19 = .ok (.ireturn, 1) := by decide +kernel
theorem dX1_inverse_20 : decode cX1_inverse 20 = .ok (.iinc 1 1, 3) := by decide +kernel
theorem dX1_inverse_23 : decode cX1_inverse 23 = .ok (.goto (-21), 3) := by decide +kernel
theorem dX1_inverse_26 : decode cX1_inverse 26 = .ok (.iconst 0, 1) := by decide +kernel
theorem dX1_inverse_27 : decode cX1_inverse 27 = .ok (.ireturn, 1) := by decide +kernel
end
section
theorem dX2_filling_0 : decode cX2_filling 0 = .ok (.iload_n 1, 1) := by decide +kernel
theorem dX2_filling_1 : decode cX2_filling 1 = .ok (.ifCond .lt 22, 3) := by decide +kernel
theorem dX2_filling_4 : decode cX2_filling 4 = .ok (.iload_n 1, 1) := by decide +kernel
theorem dX2_filling_5 : decode cX2_filling 5 = .ok (.iconst 2, 1) := by decide +kernel
theorem dX2_filling_6 : decode cX2_filling 6 = .ok (.if_icmp .ge 17, 3) := by decide +kernel
theorem dX2_filling_9 : decode cX2_filling 9 = .ok (.iload_n 2, 1) := by decide +kernel
theorem dX2_filling_10 : decode cX2_filling 10 = .ok (.ifCond .lt 13, 3) := by decide +kernel
theorem dX2_filling_13 : decode cX2_filling 13 = .ok (.iload_n 2, 1) := by decide +kernel
theorem dX2_filling_14 : decode cX2_filling 14 = .ok (.bipush 24, 2) := by decide +kernel
theorem dX2_filling_16 : decode cX2_filling 16 = .ok (.if_icmp .ge 7, 3) := by decide +kernel
theorem dX2_filling_19 : decode cX2_filling 19 = .ok (.iconst 1, 1) := by decide +kernel
theorem dX2_filling_20 : decode cX2_filling 20 = .ok (.goto 4, 3) := by decide +kernel
theorem dX2_filling_23 : decode cX2_filling 23 = .ok (.iconst 0, 1) := by decide +kernel
theorem dX2_filling_24 : decode cX2_filling 24 = .ok (.istore_n 3, 1) := by decide +kernel
theorem dX2_filling_25 : decode cX2_filling 25 = .ok (.iload_n 3, 1) := by decide +kernel
theorem dX2_filling_26 : decode cX2_filling 26 = .ok (.ifCond .eq 17, 3) := by decide +kernel
theorem dX2_filling_29 : decode cX2_filling 29 = .ok (.aload_n 0, 1) := by decide +kernel
theorem dX2_filling_30 : decode cX2_filling 30 = .ok (.getfield 21, 3) := by decide +kernel
theorem dX2_filling_33 : decode cX2_filling 33 = .ok (.iload_n 1, 1) := by decide +kernel
theorem dX2_filling_34 : decode cX2_filling 34 = .ok (.bipush 24, 2) := by decide +kernel
theorem dX2_filling_36 : decode cX2_filling 36 = .ok (.imul, 1) := by decide +kernel
theorem dX2_filling_37 : decode cX2_filling 37 = .ok (.iload_n 2, 1) := by decide +kernel
theorem dX2_filling_38 : decode cX2_filling 38 = .ok (.iadd, 1) := by decide +kernel
theorem dX2_filling_39 : decode cX2_filling 39 = .ok (.iaload, 1) := by decide +kernel
theorem dX2_filling_40 : decode cX2_filling 40 = .ok (.goto 4, 3) := by decide +kernel
theorem dX2_filling_43 : decode cX2_filling 43 = .ok (.iconst 0, 1) := by decide +kernel
theorem dX2_filling_44 : decode cX2_filling 44 = .ok (.ireturn, 1) := by decide +kernel
theorem dX2_init_0 : decode cX2_init 0 = .ok (.aload_n 0, 1) := by decide +kernel
theorem dX2_init_1 : decode cX2_init 1 = .ok (.invokespecial 3, 3) := by decide +kernel
theorem dX2_init_4 : decode cX2_init 4 = .ok (.aload_n 0, 1) := by decide +kernel
theorem dX2_init_5 : decode cX2_init 5 = .ok (.iconst 4, 1) := by decide +kernel
theorem dX2_init_6 : decode cX2_init 6 = .ok (.newarray .int, 2) := by decide +kernel
theorem dX2_init_8 : decode cX2_init 8 = .ok (.putfield 9, 3) := by decide +kernel
theorem dX2_init_11 : decode cX2_init 11 = .ok (.aload_n 0, 1) := by decide +kernel
theorem dX2_init_12 : decode cX2_init 12 = .ok (.iconst 4, 1) := by decide +kernel
theorem dX2_init_13 : decode cX2_init 13 = .ok (.newarray .int, 2) := by decide +kernel
theorem dX2_init_15 : decode cX2_init 15 = .ok (.putfield 15, 3) := by decide +kernel
theorem dX2_init_18 : decode cX2_init 18 = .ok (.aload_n 0, 1) := by decide +kernel
theorem dX2_init_19 : decode cX2_init 19 = .ok (.iconst 4, 1) := by decide +kernel
theorem dX2_init_20 : decode cX2_init 20 = .ok (.newarray .int, 2) := by decide +kernel
theorem dX2_init_22 : decode cX2_init 22 = .ok (.putfield 18, 3) := by decide +kernel
theorem dX2_init_25 : decode cX2_init 25 = .ok (.aload_n 0, 1) := by decide +kernel
theorem dX2_init_26 : decode cX2_init 26 = .ok (.bipush 48, 2) := by decide +kernel
theorem dX2_init_28 : decode cX2_init 28 = .ok (.newarray .int, 2) := by decide +kernel
theorem dX2_init_30 : decode cX2_init 30 = .ok (.putfield 21, 3) := by decide +kernel
theorem dX2_init_33 : decode cX2_init 33 = .ok (.return_, 1) := by decide +kernel
theorem dX2_note_0 : decode cX2_note 0 = .ok (.iconst 0, 1) := by decide +kernel
theorem dX2_note_1 : decode cX2_note 1 = .ok (.istore_n 3, 1) := by decide +kernel
theorem dX2_note_2 : decode cX2_note 2 = .ok (.iload_n 3, 1) := by decide +kernel
theorem dX2_note_3 : decode cX2_note 3 = .ok (.aload_n 0, 1) := by decide +kernel
theorem dX2_note_4 : decode cX2_note 4 = .ok (.getfield 24, 3) := by decide +kernel
theorem dX2_note_7 : decode cX2_note 7 = .ok (.if_icmp .ge 24, 3) := by decide +kernel
theorem dX2_note_10 : decode cX2_note 10 = .ok (.iload_n 3, 1) := by decide +kernel
theorem dX2_note_11 : decode cX2_note 11 = .ok (.iconst 4, 1) := by decide +kernel
theorem dX2_note_12 : decode cX2_note 12 = .ok (.if_icmp .ge 19, 3) := by decide +kernel
theorem dX2_note_15 : decode cX2_note 15 = .ok (.aload_n 0, 1) := by decide +kernel
theorem dX2_note_16 : decode cX2_note 16 = .ok (.getfield 9, 3) := by decide +kernel
theorem dX2_note_19 : decode cX2_note 19 = .ok (.iload_n 3, 1) := by decide +kernel
theorem dX2_note_20 : decode cX2_note 20 = .ok (.iaload, 1) := by decide +kernel
theorem dX2_note_21 : decode cX2_note 21 = .ok (.iload_n 1, 1) := by decide +kernel
theorem dX2_note_22 : decode cX2_note 22 = .ok (.if_icmp .eq 9, 3) := by decide +kernel
theorem dX2_note_25 : decode cX2_note 25 = .ok (.iinc 3 1, 3) := by decide +kernel
theorem dX2_note_28 : decode cX2_note 28 = .ok (.goto (-26), 3) := by decide +kernel
theorem dX2_note_31 : decode cX2_note 31 = .ok (.iload_n 3, 1) := by decide +kernel
theorem dX2_note_32 : decode cX2_note 32 = .ok (.iconst 4, 1) := by decide +kernel
theorem dX2_note_33 : decode cX2_note 33 = .ok (.if_icmp .lt 4, 3) := by decide +kernel
theorem dX2_note_36 : decode cX2_note 36 = .ok (.return_, 1) := by decide +kernel
theorem dX2_note_37 : decode cX2_note 37 = .ok (.iload_n 3, 1) := by decide +kernel
theorem dX2_note_38 : decode cX2_note 38 = .ok (.aload_n 0, 1) := by decide +kernel
theorem dX2_note_39 : decode cX2_note 39 = .ok (.getfield 24, 3) := by decide +kernel
theorem dX2_note_42 : decode cX2_note 42 = .ok (.if_icmp .ne 20, 3) := by decide +kernel
theorem dX2_note_45 : decode cX2_note 45 = .ok (.aload_n 0, 1) := by decide +kernel
theorem dX2_note_46 : decode cX2_note 46 = .ok (.getfield 9, 3) := by decide +kernel
theorem dX2_note_49 : decode cX2_note 49 = .ok (.iload_n 3, 1) := by decide +kernel
theorem dX2_note_50 : decode cX2_note 50 = .ok (.iload_n 1, 1) := by decide +kernel
theorem dX2_note_51 : decode cX2_note 51 = .ok (.iastore, 1) := by decide +kernel
theorem dX2_note_52 : decode cX2_note 52 = .ok (.aload_n 0, 1) := by decide +kernel
theorem dX2_note_53 : decode cX2_note 53 = .ok (.dup, 1) := by decide +kernel
theorem dX2_note_54 : decode cX2_note 54 = .ok (.getfield 24, 3) := by decide +kernel
theorem dX2_note_57 : decode cX2_note 57 = .ok (.iconst 1, 1) := by decide +kernel
theorem dX2_note_58 : decode cX2_note 58 = .ok (.iadd, 1) := by decide +kernel
theorem dX2_note_59 : decode cX2_note 59 = .ok (.putfield 24, 3) := by decide +kernel
theorem dX2_note_62 : decode cX2_note 62 = .ok (.aload_n 0, 1) := by decide +kernel
theorem dX2_note_63 : decode cX2_note 63 = .ok (.getfield 15, 3) := by decide +kernel
theorem dX2_note_66 : decode cX2_note 66 = .ok (.iload_n 3, 1) := by decide +kernel
theorem dX2_note_67 : decode cX2_note 67 = .ok (.dup2, 1) := by decide +kernel
theorem dX2_note_68 : decode cX2_note 68 = .ok (.iaload, 1) := by decide +kernel
theorem dX2_note_69 : decode cX2_note 69 = .ok (.iconst 1, 1) := by decide +kernel
theorem dX2_note_70 : decode cX2_note 70 = .ok (.ixor, 1) := by decide +kernel
theorem dX2_note_71 : decode cX2_note 71 = .ok (.iastore, 1) := by decide +kernel
theorem dX2_note_72 : decode cX2_note 72 = .ok (.aload_n 0, 1) := by decide +kernel
theorem dX2_note_73 : decode cX2_note 73 = .ok (.getfield 18, 3) := by decide +kernel
theorem dX2_note_76 : decode cX2_note 76 = .ok (.iload_n 3, 1) := by decide +kernel
theorem dX2_note_77 : decode cX2_note 77 = .ok (.dup2, 1) := by decide +kernel
theorem dX2_note_78 : decode cX2_note 78 = .ok (.iaload, 1) := by decide +kernel
theorem dX2_note_79 : decode cX2_note 79 = .ok (.iload_n 2, 1) := by decide +kernel
theorem dX2_note_80 : decode cX2_note 80 = .ok (.ixor, 1) := by decide +kernel
theorem dX2_note_81 : decode cX2_note 81 = .ok (.iastore, 1) := by decide +kernel
theorem dX2_note_82 : decode cX2_note 82 = .ok (.return_, 1) := by decide +kernel
theorem dX2_sectorOf_0 : decode cX2_sectorOf 0 = .ok (.iload_n 1, 1) := by decide +kernel
theorem dX2_sectorOf_1 : decode cX2_sectorOf 1 = .ok (.ifCond .lt 25, 3) := by decide +kernel
theorem dX2_sectorOf_4 : decode cX2_sectorOf 4 = .ok (.iload_n 1, 1) := by decide +kernel
theorem dX2_sectorOf_5 : decode cX2_sectorOf 5 = .ok (.aload_n 0, 1) := by decide +kernel
theorem dX2_sectorOf_6 : decode cX2_sectorOf 6 = .ok (.getfield 24, 3) := by decide +kernel
theorem dX2_sectorOf_9 : decode cX2_sectorOf 9 = .ok (.if_icmp .ge 17, 3) := by decide +kernel
theorem dX2_sectorOf_12 : decode cX2_sectorOf 12 = .ok (.iload_n 1, 1) := by decide +kernel
theorem dX2_sectorOf_13 : decode cX2_sectorOf 13 = .ok (.iconst 4, 1) := by decide +kernel
theorem dX2_sectorOf_14 : decode cX2_sectorOf 14 = .ok (.if_icmp .ge 12, 3) := by decide +kernel
theorem dX2_sectorOf_17 : decode cX2_sectorOf 17 = .ok (.aload_n 0, 1) := by decide +kernel
theorem dX2_sectorOf_18 : decode cX2_sectorOf 18 = .ok (.getfield 9, 3) := by decide +kernel
theorem dX2_sectorOf_21 : decode cX2_sectorOf 21 = .ok (.iload_n 1, 1) := by decide +kernel
theorem dX2_sectorOf_22 : decode cX2_sectorOf 22 = .ok (.iaload, 1) := by decide +kernel
theorem dX2_sectorOf_23 : decode cX2_sectorOf 23 = .ok (.goto 4, 3) := by decide +kernel
theorem dX2_sectorOf_26 : decode cX2_sectorOf 26 = .ok (.iconst (-1), 1) := by decide +kernel
theorem dX2_sectorOf_27 : decode cX2_sectorOf 27 = .ok (.ireturn, 1) := by decide +kernel
theorem dX2_size_0 : decode cX2_size 0 = .ok (.aload_n 0, 1) := by decide +kernel
theorem dX2_size_1 : decode cX2_size 1 = .ok (.getfield 24, 3) := by decide +kernel
theorem dX2_size_4 : decode cX2_size 4 = .ok (.ireturn, 1) := by decide +kernel
theorem dX2_clear_0 : decode cX2_clear 0 = .ok (.aload_n 0, 1) := by decide +kernel
theorem dX2_clear_1 : decode cX2_clear 1 = .ok (.iconst 0, 1) := by decide +kernel
theorem dX2_clear_2 : decode cX2_clear 2 = .ok (.putfield 24, 3) := by decide +kernel
theorem dX2_clear_5 : decode cX2_clear 5 = .ok (.aload_n 0, 1) := by decide +kernel
theorem dX2_clear_6 : decode cX2_clear 6 = .ok (.getfield 15, 3) := by decide +kernel
theorem dX2_clear_9 : decode cX2_clear 9 = .ok (.iconst 0, 1) := by decide +kernel
theorem dX2_clear_10 : decode cX2_clear 10 = .ok (.invokestatic 28, 3) := by decide +kernel
theorem dX2_clear_13 : decode cX2_clear 13 = .ok (.aload_n 0, 1) := by decide +kernel
theorem dX2_clear_14 : decode cX2_clear 14 = .ok (.getfield 18, 3) := by decide +kernel
theorem dX2_clear_17 : decode cX2_clear 17 = .ok (.iconst 0, 1) := by decide +kernel
theorem dX2_clear_18 : decode cX2_clear 18 = .ok (.invokestatic 28, 3) := by decide +kernel
theorem dX2_clear_21 : decode cX2_clear 21 = .ok (.return_, 1) := by decide +kernel
theorem dX2_solve_0 : decode cX2_solve 0 = .ok (.iload_n 1, 1) := by decide +kernel
theorem dX2_solve_1 : decode cX2_solve 1 = .ok (.ifCond .lt 9, 3) := by decide +kernel
theorem dX2_solve_4 : decode cX2_solve 4 = .ok (.iload_n 1, 1) := by decide +kernel
theorem dX2_solve_5 : decode cX2_solve 5 = .ok (.bipush 24, 2) := by decide +kernel
theorem dX2_solve_7 : decode cX2_solve 7 = .ok (.if_icmp .lt 5, 3) := by decide +kernel
theorem dX2_solve_10 : decode cX2_solve 10 = .ok (.iconst 0, 1) := by decide +kernel
theorem dX2_solve_11 : decode cX2_solve 11 = .ok (.ireturn, 1) := by decide +kernel
theorem dX2_solve_12 : decode cX2_solve 12 = .ok (.aload_n 0, 1) := by decide +kernel
theorem dX2_solve_13 : decode cX2_solve 13 = .ok (.getfield 24, 3) := by decide +kernel
theorem dX2_solve_16 : decode cX2_solve 16 = .ok (.iconst 2, 1) := by decide +kernel
theorem dX2_solve_17 : decode cX2_solve 17 = .ok (.if_icmp .ne 84, 3) := by decide +kernel
theorem dX2_solve_20 : decode cX2_solve 20 = .ok (.iload_n 2, 1) := by decide +kernel
theorem dX2_solve_21 : decode cX2_solve 21 = .ok (.aload_n 0, 1) := by decide +kernel
theorem dX2_solve_22 : decode cX2_solve 22 = .ok (.getfield 18, 3) := by decide +kernel
theorem dX2_solve_25 : decode cX2_solve 25 = .ok (.iconst 1, 1) := by decide +kernel
theorem dX2_solve_26 : decode cX2_solve 26 = .ok (.iaload, 1) := by decide +kernel
theorem dX2_solve_27 : decode cX2_solve 27 = .ok (.invokestatic 34, 3) := by decide +kernel
theorem dX2_solve_30 : decode cX2_solve 30 = .ok (.iload_n 3, 1) := by decide +kernel
theorem dX2_solve_31 : decode cX2_solve 31 = .ok (.aload_n 0, 1) := by decide +kernel
theorem dX2_solve_32 : decode cX2_solve 32 = .ok (.getfield 15, 3) := by decide +kernel
theorem dX2_solve_35 : decode cX2_solve 35 = .ok (.iconst 1, 1) := by decide +kernel
theorem dX2_solve_36 : decode cX2_solve 36 = .ok (.iaload, 1) := by decide +kernel
theorem dX2_solve_37 : decode cX2_solve 37 = .ok (.invokestatic 34, 3) := by decide +kernel
theorem dX2_solve_40 : decode cX2_solve 40 = .ok (.ixor, 1) := by decide +kernel
theorem dX2_solve_41 : decode cX2_solve 41 = .ok (.istore 4, 2) := by decide +kernel
theorem dX2_solve_43 : decode cX2_solve 43 = .ok (.iload_n 3, 1) := by decide +kernel
theorem dX2_solve_44 : decode cX2_solve 44 = .ok (.aload_n 0, 1) := by decide +kernel
theorem dX2_solve_45 : decode cX2_solve 45 = .ok (.getfield 15, 3) := by decide +kernel
theorem dX2_solve_48 : decode cX2_solve 48 = .ok (.iconst 0, 1) := by decide +kernel
theorem dX2_solve_49 : decode cX2_solve 49 = .ok (.iaload, 1) := by decide +kernel
theorem dX2_solve_50 : decode cX2_solve 50 = .ok (.invokestatic 34, 3) := by decide +kernel
theorem dX2_solve_53 : decode cX2_solve 53 = .ok (.iload_n 2, 1) := by decide +kernel
theorem dX2_solve_54 : decode cX2_solve 54 = .ok (.aload_n 0, 1) := by decide +kernel
theorem dX2_solve_55 : decode cX2_solve 55 = .ok (.getfield 18, 3) := by decide +kernel
theorem dX2_solve_58 : decode cX2_solve 58 = .ok (.iconst 0, 1) := by decide +kernel
theorem dX2_solve_59 : decode cX2_solve 59 = .ok (.iaload, 1) := by decide +kernel
theorem dX2_solve_60 : decode cX2_solve 60 = .ok (.invokestatic 34, 3) := by decide +kernel
theorem dX2_solve_63 : decode cX2_solve 63 = .ok (.ixor, 1) := by decide +kernel
theorem dX2_solve_64 : decode cX2_solve 64 = .ok (.istore 5, 2) := by decide +kernel
theorem dX2_solve_66 : decode cX2_solve 66 = .ok (.aload_n 0, 1) := by decide +kernel
theorem dX2_solve_67 : decode cX2_solve 67 = .ok (.getfield 21, 3) := by decide +kernel
theorem dX2_solve_70 : decode cX2_solve 70 = .ok (.iload_n 1, 1) := by decide +kernel
theorem dX2_solve_71 : decode cX2_solve 71 = .ok (.iload 4, 2) := by decide +kernel
theorem dX2_solve_73 : decode cX2_solve 73 = .ok (.aload_n 0, 1) := by decide +kernel
theorem dX2_solve_74 : decode cX2_solve 74 = .ok (.getfield 44, 3) := by decide +kernel
theorem dX2_solve_77 : decode cX2_solve 77 = .ok (.invokestatic 34, 3) := by decide +kernel
theorem dX2_solve_80 : decode cX2_solve 80 = .ok (.iastore, 1) := by decide +kernel
theorem dX2_solve_81 : decode cX2_solve 81 = .ok (.aload_n 0, 1) := by decide +kernel
theorem dX2_solve_82 : decode cX2_solve 82 = .ok (.getfield 21, 3) := by decide +kernel
theorem dX2_solve_85 : decode cX2_solve 85 = .ok (.bipush 24, 2) := by decide +kernel
theorem dX2_solve_87 : decode cX2_solve 87 = .ok (.iload_n 1, 1) := by decide +kernel
theorem dX2_solve_88 : decode cX2_solve 88 = .ok (.iadd, 1) := by decide +kernel
theorem dX2_solve_89 : decode cX2_solve 89 = .ok (.iload 5, 2) := by decide +kernel
theorem dX2_solve_91 : decode cX2_solve 91 = .ok (.aload_n 0, 1) := by decide +kernel
theorem dX2_solve_92 : decode cX2_solve 92 = .ok (.getfield 44, 3) := by decide +kernel
theorem dX2_solve_95 : decode cX2_solve 95 = .ok (.invokestatic 34, 3) := by decide +kernel
theorem dX2_solve_98 : decode cX2_solve 98 = .ok (.iastore, 1) := by decide +kernel
theorem dX2_solve_99 : decode cX2_solve 99 = .ok (.iconst 1, 1) := by decide +kernel
theorem dX2_solve_100 : decode cX2_solve 100 = .ok (.ireturn, 1) := by decide +kernel
theorem dX2_solve_101 : decode cX2_solve 101 = .ok (.aload_n 0, 1) := by decide +kernel
theorem dX2_solve_102 : decode cX2_solve 102 = .ok (.getfield 15, 3) := by decide +kernel
theorem dX2_solve_105 : decode cX2_solve 105 = .ok (.iconst 0, 1) := by decide +kernel
theorem dX2_solve_106 : decode cX2_solve 106 = .ok (.iaload, 1) := by decide +kernel
theorem dX2_solve_107 : decode cX2_solve 107 = .ok (.ifCond .eq 7, 3) := by decide +kernel
theorem dX2_solve_110 : decode cX2_solve 110 = .ok (.iload_n 2, 1) := by decide +kernel
theorem dX2_solve_111 : decode cX2_solve 111 = .ok (.goto 4, 3) := by decide +kernel
theorem dX2_solve_114 : decode cX2_solve 114 = .ok (.iload_n 3, 1) := by decide +kernel
theorem dX2_solve_115 : decode cX2_solve 115 = .ok (.aload_n 0, 1) := by decide +kernel
theorem dX2_solve_116 : decode cX2_solve 116 = .ok (.getfield 44, 3) := by decide +kernel
theorem dX2_solve_119 : decode cX2_solve 119 = .ok (.invokestatic 34, 3) := by decide +kernel
theorem dX2_solve_122 : decode cX2_solve 122 = .ok (.istore 4, 2) := by decide +kernel
theorem dX2_solve_124 : decode cX2_solve 124 = .ok (.aload_n 0, 1) := by decide +kernel
theorem dX2_solve_125 : decode cX2_solve 125 = .ok (.getfield 21, 3) := by decide +kernel
theorem dX2_solve_128 : decode cX2_solve 128 = .ok (.iload_n 1, 1) := by decide +kernel
theorem dX2_solve_129 : decode cX2_solve 129 = .ok (.iload 4, 2) := by decide +kernel
theorem dX2_solve_131 : decode cX2_solve 131 = .ok (.iastore, 1) := by decide +kernel
theorem dX2_solve_132 : decode cX2_solve 132 = .ok (.aload_n 0, 1) := by decide +kernel
theorem dX2_solve_133 : decode cX2_solve 133 = .ok (.getfield 15, 3) := by decide +kernel
theorem dX2_solve_136 : decode cX2_solve 136 = .ok (.iconst 0, 1) := by decide +kernel
theorem dX2_solve_137 : decode cX2_solve 137 = .ok (.iaload, 1) := by decide +kernel
theorem dX2_solve_138 : decode cX2_solve 138 = .ok (.iload 4, 2) := by decide +kernel
theorem dX2_solve_140 : decode cX2_solve 140 = .ok (.invokestatic 34, 3) := by decide +kernel
theorem dX2_solve_143 : decode cX2_solve 143 = .ok (.iload_n 2, 1) := by decide +kernel
theorem dX2_solve_144 : decode cX2_solve 144 = .ok (.if_icmp .ne 22, 3) := by decide +kernel
theorem dX2_solve_147 : decode cX2_solve 147 = .ok (.aload_n 0, 1) := by decide +kernel
theorem dX2_solve_148 : decode cX2_solve 148 = .ok (.getfield 18, 3) := by decide +kernel
theorem dX2_solve_151 : decode cX2_solve 151 = .ok (.iconst 0, 1) := by decide +kernel
theorem dX2_solve_152 : decode cX2_solve 152 = .ok (.iaload, 1) := by decide +kernel
theorem dX2_solve_153 : decode cX2_solve 153 = .ok (.iload 4, 2) := by decide +kernel
theorem dX2_solve_155 : decode cX2_solve 155 = .ok (.invokestatic 34, 3) := by decide +kernel
theorem dX2_solve_158 : decode cX2_solve 158 = .ok (.iload_n 3, 1) := by decide +kernel
theorem dX2_solve_159 : decode cX2_solve 159 = .ok (.if_icmp .ne 7, 3) := by decide +kernel
theorem dX2_solve_162 : decode cX2_solve 162 = .ok (.iconst 1, 1) := by decide +kernel
theorem dX2_solve_163 : decode cX2_solve 163 = .ok (.goto 4, 3) := by decide +kernel
theorem dX2_solve_166 : decode cX2_solve 166 = .ok (.iconst 0, 1) := by decide +kernel
theorem dX2_solve_167 : decode cX2_solve 167 = .ok (.ireturn, 1) := by decide +kernel
theorem dX2_prepare_0 : decode cX2_prepare 0 = .ok (.aload_n 0, 1) := by decide +kernel
theorem dX2_prepare_1 : decode cX2_prepare 1 = .ok (.getfield 24, 3) := by decide +kernel
theorem dX2_prepare_4 : decode cX2_prepare 4 = .ok (.iconst 1, 1) := by decide +kernel
theorem dX2_prepare_5 : decode cX2_prepare 5 = .ok (.if_icmp .lt 11, 3) := by decide +kernel
theorem dX2_prepare_8 : decode cX2_prepare 8 = .ok (.aload_n 0, 1) := by decide +kernel
theorem dX2_prepare_9 : decode cX2_prepare 9 = .ok (.getfield 24, 3) := by decide +kernel
theorem dX2_prepare_12 : decode cX2_prepare 12 = .ok (.iconst 2, 1) := by decide +kernel
theorem dX2_prepare_13 : decode cX2_prepare 13 = .ok (.if_icmp .le 5, 3) := by decide +kernel
theorem dX2_prepare_16 : decode cX2_prepare 16 = .ok (.iconst 0, 1) := by decide +kernel
theorem dX2_prepare_17 : decode cX2_prepare 17 = .ok (.ireturn, 1) := by decide +kernel
theorem dX2_prepare_18 : decode cX2_prepare 18 = .ok (.iload_n 1, 1) := by decide +kernel
theorem dX2_prepare_19 : decode cX2_prepare 19 = .ok (.ifCond .ne 11, 3) := by decide +kernel
theorem dX2_prepare_22 : decode cX2_prepare 22 = .ok (.aload_n 0, 1) := by decide +kernel
theorem dX2_prepare_23 : decode cX2_prepare 23 = .ok (.getfield 15, 3) := by decide +kernel
theorem dX2_prepare_26 : decode cX2_prepare 26 = .ok (.iconst 0, 1) := by decide +kernel
theorem dX2_prepare_27 : decode cX2_prepare 27 = .ok (.invokestatic 28, 3) := by decide +kernel
theorem dX2_prepare_30 : decode cX2_prepare 30 = .ok (.iload_n 2, 1) := by decide +kernel
theorem dX2_prepare_31 : decode cX2_prepare 31 = .ok (.ifCond .ne 11, 3) := by decide +kernel
theorem dX2_prepare_34 : decode cX2_prepare 34 = .ok (.aload_n 0, 1) := by decide +kernel
theorem dX2_prepare_35 : decode cX2_prepare 35 = .ok (.getfield 18, 3) := by decide +kernel
theorem dX2_prepare_38 : decode cX2_prepare 38 = .ok (.iconst 0, 1) := by decide +kernel
theorem dX2_prepare_39 : decode cX2_prepare 39 = .ok (.invokestatic 28, 3) := by decide +kernel
theorem dX2_prepare_42 : decode cX2_prepare 42 = .ok (.aload_n 0, 1) := by decide +kernel
theorem dX2_prepare_43 : decode cX2_prepare 43 = .ok (.getfield 24, 3) := by decide +kernel
theorem dX2_prepare_46 : decode cX2_prepare 46 = .ok (.iconst 2, 1) := by decide +kernel
theorem dX2_prepare_47 : decode cX2_prepare 47 = .ok (.if_icmp .ne 37, 3) := by decide +kernel
theorem dX2_prepare_50 : decode cX2_prepare 50 = .ok (.aload_n 0, 1) := by decide +kernel
theorem dX2_prepare_51 : decode cX2_prepare 51 = .ok (.getfield 15, 3) := by decide +kernel
theorem dX2_prepare_54 : decode cX2_prepare 54 = .ok (.iconst 0, 1) := by decide +kernel
theorem dX2_prepare_55 : decode cX2_prepare 55 = .ok (.iaload, 1) := by decide +kernel
theorem dX2_prepare_56 : decode cX2_prepare 56 = .ok (.aload_n 0, 1) := by decide +kernel
theorem dX2_prepare_57 : decode cX2_prepare 57 = .ok (.getfield 18, 3) := by decide +kernel
theorem dX2_prepare_60 : decode cX2_prepare 60 = .ok (.iconst 1, 1) := by decide +kernel
theorem dX2_prepare_61 : decode cX2_prepare 61 = .ok (.iaload, 1) := by decide +kernel
theorem dX2_prepare_62 : decode cX2_prepare 62 = .ok (.invokestatic 34, 3) := by decide +kernel
theorem dX2_prepare_65 : decode cX2_prepare 65 = .ok (.aload_n 0, 1) := by decide +kernel
theorem dX2_prepare_66 : decode cX2_prepare 66 = .ok (.getfield 15, 3) := by decide +kernel
theorem dX2_prepare_69 : decode cX2_prepare 69 = .ok (.iconst 1, 1) := by decide +kernel
theorem dX2_prepare_70 : decode cX2_prepare 70 = .ok (.iaload, 1) := by decide +kernel
theorem dX2_prepare_71 : decode cX2_prepare 71 = .ok (.aload_n 0, 1) := by decide +kernel
theorem dX2_prepare_72 : decode cX2_prepare 72 = .ok (.getfield 18, 3) := by decide +kernel
theorem dX2_prepare_75 : decode cX2_prepare 75 = .ok (.iconst 0, 1) := by decide +kernel
theorem dX2_prepare_76 : decode cX2_prepare 76 = .ok (.iaload, 1) := by decide +kernel
theorem dX2_prepare_77 : decode cX2_prepare 77 = .ok (.invokestatic 34, 3) := by decide +kernel
theorem dX2_prepare_80 : decode cX2_prepare 80 = .ok (.ixor, 1) := by decide +kernel
theorem dX2_prepare_81 : decode cX2_prepare 81 = .ok (.goto 27, 3) := by decide +kernel
theorem dX2_prepare_84 : decode cX2_prepare 84 = .ok (.aload_n 0, 1) := by decide +kernel
theorem dX2_prepare_85 : decode cX2_prepare 85 = .ok (.getfield 15, 3) := by decide +kernel
theorem dX2_prepare_88 : decode cX2_prepare 88 = .ok (.iconst 0, 1) := by decide +kernel
theorem dX2_prepare_89 : decode cX2_prepare 89 = .ok (.iaload, 1) := by decide +kernel
theorem dX2_prepare_90 : decode cX2_prepare 90 = .ok (.ifCond .eq 12, 3) := by decide +kernel
theorem dX2_prepare_93 : decode cX2_prepare 93 = .ok (.aload_n 0, 1) := by decide +kernel
theorem dX2_prepare_94 : decode cX2_prepare 94 = .ok (.getfield 15, 3) := by decide +kernel
theorem dX2_prepare_97 : decode cX2_prepare 97 = .ok (.iconst 0, 1) := by decide +kernel
theorem dX2_prepare_98 : decode cX2_prepare 98 = .ok (.iaload, 1) := by decide +kernel
theorem dX2_prepare_99 : decode cX2_prepare 99 = .ok (.goto 9, 3) := by decide +kernel
theorem dX2_prepare_102 : decode cX2_prepare 102 = .ok (.aload_n 0, 1) := by decide +kernel
theorem dX2_prepare_103 : decode cX2_prepare 103 = .ok (.getfield 18, 3) := by decide +kernel
theorem dX2_prepare_106 : decode cX2_prepare 106 = .ok (.iconst 0, 1) := by decide +kernel
theorem dX2_prepare_107 : decode cX2_prepare 107 = .ok (.iaload, 1) := by decide +kernel
theorem dX2_prepare_108 : decode cX2_prepare 108 = .ok (.istore_n 3, 1) := by decide +kernel
theorem dX2_prepare_109 : decode cX2_prepare 109 = .ok (.aload_n 0, 1) := by decide +kernel
theorem dX2_prepare_110 : decode cX2_prepare 110 = .ok (.iload_n 3, 1) := by decide +kernel
theorem dX2_prepare_111 : decode cX2_prepare 111 = .ok (.invokestatic 40, 3) := by decide +kernel
theorem dX2_prepare_114 : decode cX2_prepare 114 = .ok (.putfield 44, 3) := by decide +kernel
theorem dX2_prepare_117 : decode cX2_prepare 117 = .ok (.aload_n 0, 1) := by decide +kernel
theorem dX2_prepare_118 : decode cX2_prepare 118 = .ok (.getfield 44, 3) := by decide +kernel
theorem dX2_prepare_121 : decode cX2_prepare 121 = .ok (.ifCond .eq 7, 3) := by decide +kernel
theorem dX2_prepare_124 : decode cX2_prepare 124 = .ok (.iconst 1, 1) := by decide +kernel
theorem dX2_prepare_125 : decode cX2_prepare 125 = .ok (.goto 4, 3) := by decide +kernel
theorem dX2_prepare_128 : decode cX2_prepare 128 = .ok (.iconst 0, 1) := by decide +kernel
theorem dX2_prepare_129 : decode cX2_prepare 129 = .ok (.ireturn, 1) := by decide +kernel
end
section
theorem dX3_clear_0 : decode cX3_clear 0 = .ok (.aload_n 0, 1) := by decide +kernel
theorem dX3_clear_1 : decode cX3_clear 1 = .ok (.iconst 0, 1) := by decide +kernel
theorem dX3_clear_2 : decode cX3_clear 2 = .ok (.putfield 22, 3) := by decide +kernel
theorem dX3_clear_5 : decode cX3_clear 5 = .ok (.return_, 1) := by decide +kernel
theorem dX3_init_0 : decode cX3_init 0 = .ok (.aload_n 0, 1) := by decide +kernel
theorem dX3_init_1 : decode cX3_init 1 = .ok (.invokespecial 3, 3) := by decide +kernel
theorem dX3_init_4 : decode cX3_init 4 = .ok (.aload_n 0, 1) := by decide +kernel
theorem dX3_init_5 : decode cX3_init 5 = .ok (.bipush 60, 2) := by decide +kernel
theorem dX3_init_7 : decode cX3_init 7 = .ok (.newarray .int, 2) := by decide +kernel
theorem dX3_init_9 : decode cX3_init 9 = .ok (.putfield 9, 3) := by decide +kernel
theorem dX3_init_12 : decode cX3_init 12 = .ok (.aload_n 0, 1) := by decide +kernel
theorem dX3_init_13 : decode cX3_init 13 = .ok (.sipush 1920, 3) := by decide +kernel
theorem dX3_init_16 : decode cX3_init 16 = .ok (.newarray .int, 2) := by decide +kernel
theorem dX3_init_18 : decode cX3_init 18 = .ok (.putfield 15, 3) := by decide +kernel
theorem dX3_init_21 : decode cX3_init 21 = .ok (.aload_n 0, 1) := by decide +kernel
theorem dX3_init_22 : decode cX3_init 22 = .ok (.bipush 60, 2) := by decide +kernel
theorem dX3_init_24 : decode cX3_init 24 = .ok (.newarray .boolean, 2) := by decide +kernel
theorem dX3_init_26 : decode cX3_init 26 = .ok (.putfield 18, 3) := by decide +kernel
theorem dX3_init_29 : decode cX3_init 29 = .ok (.return_, 1) := by decide +kernel
theorem dX3_size_0 : decode cX3_size 0 = .ok (.aload_n 0, 1) := by decide +kernel
theorem dX3_size_1 : decode cX3_size 1 = .ok (.getfield 22, 3) := by decide +kernel
theorem dX3_size_4 : decode cX3_size 4 = .ok (.ireturn, 1) := by decide +kernel
theorem dX3_note_0 : decode cX3_note 0 = .ok (.aload_n 0, 1) := by decide +kernel
theorem dX3_note_1 : decode cX3_note 1 = .ok (.getfield 22, 3) := by decide +kernel
theorem dX3_note_4 : decode cX3_note 4 = .ok (.bipush 60, 2) := by decide +kernel
theorem dX3_note_6 : decode cX3_note 6 = .ok (.if_icmp .lt 4, 3) := by decide +kernel
theorem dX3_note_9 : decode cX3_note 9 = .ok (.return_, 1) := by decide +kernel
theorem dX3_note_10 : decode cX3_note 10 = .ok (.aload_n 0, 1) := by decide +kernel
theorem dX3_note_11 : decode cX3_note 11 = .ok (.getfield 9, 3) := by decide +kernel
theorem dX3_note_14 : decode cX3_note 14 = .ok (.aload_n 0, 1) := by decide +kernel
theorem dX3_note_15 : decode cX3_note 15 = .ok (.getfield 22, 3) := by decide +kernel
theorem dX3_note_18 : decode cX3_note 18 = .ok (.iload_n 1, 1) := by decide +kernel
theorem dX3_note_19 : decode cX3_note 19 = .ok (.iastore, 1) := by decide +kernel
theorem dX3_note_20 : decode cX3_note 20 = .ok (.aload_n 0, 1) := by decide +kernel
theorem dX3_note_21 : decode cX3_note 21 = .ok (.getfield 18, 3) := by decide +kernel
theorem dX3_note_24 : decode cX3_note 24 = .ok (.aload_n 0, 1) := by decide +kernel
theorem dX3_note_25 : decode cX3_note 25 = .ok (.getfield 22, 3) := by decide +kernel
theorem dX3_note_28 : decode cX3_note 28 = .ok (.aload_n 2, 1) := by decide +kernel
theorem dX3_note_29 : decode cX3_note 29 = .ok (.iload_n 1, 1) := by decide +kernel
theorem dX3_note_30 : decode cX3_note 30 = .ok (.invokevirtual 26, 3) := by decide +kernel
theorem dX3_note_33 : decode cX3_note 33 = .ok (.bastore, 1) := by decide +kernel
theorem dX3_note_34 : decode cX3_note 34 = .ok (.aload_n 2, 1) := by decide +kernel
theorem dX3_note_35 : decode cX3_note 35 = .ok (.iload_n 1, 1) := by decide +kernel
theorem dX3_note_36 : decode cX3_note 36 = .ok (.aload_n 0, 1) := by decide +kernel
theorem dX3_note_37 : decode cX3_note 37 = .ok (.getfield 15, 3) := by decide +kernel
theorem dX3_note_40 : decode cX3_note 40 = .ok (.aload_n 0, 1) := by decide +kernel
theorem dX3_note_41 : decode cX3_note 41 = .ok (.getfield 22, 3) := by decide +kernel
theorem dX3_note_44 : decode cX3_note 44 = .ok (.bipush 32, 2) := by decide +kernel
theorem dX3_note_46 : decode cX3_note 46 = .ok (.imul, 1) := by decide +kernel
theorem dX3_note_47 : decode cX3_note 47 = .ok (.invokevirtual 32, 3) := by decide +kernel
theorem dX3_note_50 : decode cX3_note 50 = .ok (.aload_n 0, 1) := by decide +kernel
theorem dX3_note_51 : decode cX3_note 51 = .ok (.dup, 1) := by decide +kernel
theorem dX3_note_52 : decode cX3_note 52 = .ok (.getfield 22, 3) := by decide +kernel
theorem dX3_note_55 : decode cX3_note 55 = .ok (.iconst 1, 1) := by decide +kernel
theorem dX3_note_56 : decode cX3_note 56 = .ok (.iadd, 1) := by decide +kernel
theorem dX3_note_57 : decode cX3_note 57 = .ok (.putfield 22, 3) := by decide +kernel
theorem dX3_note_60 : decode cX3_note 60 = .ok (.return_, 1) := by decide +kernel
theorem dX3_undoBehind_0 : decode cX3_undoBehind 0 = .ok (.aload_n 0, 1) := by decide +kernel
theorem dX3_undoBehind_1 : decode cX3_undoBehind 1 = .ok (.getfield 22, 3) := by decide +kernel
theorem dX3_undoBehind_4 : decode cX3_undoBehind 4 = .ok (.iconst 1, 1) := by decide +kernel
theorem dX3_undoBehind_5 : decode cX3_undoBehind 5 = .ok (.isub, 1) := by decide +kernel
theorem dX3_undoBehind_6 : decode cX3_undoBehind 6 = .ok (.istore 4, 2) := by decide +kernel
theorem dX3_undoBehind_8 : decode cX3_undoBehind 8 = .ok (.iload 4, 2) := by decide +kernel
theorem dX3_undoBehind_10 : decode cX3_undoBehind 10 = .ok (.iload_n 1, 1) := by decide +kernel
theorem dX3_undoBehind_11 : decode cX3_undoBehind 11 = .ok (.if_icmp .le 42, 3) := by decide +kernel
theorem dX3_undoBehind_14 : decode cX3_undoBehind 14 = .ok (.iload 4, 2) := by decide +kernel
theorem dX3_undoBehind_16 : decode cX3_undoBehind 16 = .ok (.ifCond .lt 37, 3) := by decide +kernel
theorem dX3_undoBehind_19 : decode cX3_undoBehind 19 = .ok (.aload_n 3, 1) := by decide +kernel
theorem dX3_undoBehind_20 : decode cX3_undoBehind 20 = .ok (.aload_n 0, 1) := by decide +kernel
theorem dX3_undoBehind_21 : decode cX3_undoBehind 21 = .ok (.getfield 9, 3) := by decide +kernel
theorem dX3_undoBehind_24 : decode cX3_undoBehind 24 = .ok (.iload 4, 2) := by decide +kernel
theorem dX3_undoBehind_26 : decode cX3_undoBehind 26 = .ok (.iaload, 1) := by decide +kernel
theorem dX3_undoBehind_27 : decode cX3_undoBehind 27 = .ok (.iconst 0, 1) := by decide +kernel
theorem dX3_undoBehind_28 : decode cX3_undoBehind 28 = .ok (.aload_n 0, 1) := by decide +kernel
theorem dX3_undoBehind_29 : decode cX3_undoBehind 29 = .ok (.getfield 15, 3) := by decide +kernel
theorem dX3_undoBehind_32 : decode cX3_undoBehind 32 = .ok (.iload 4, 2) := by decide +kernel
theorem dX3_undoBehind_34 : decode cX3_undoBehind 34 = .ok (.bipush 32, 2) := by decide +kernel
theorem dX3_undoBehind_36 : decode cX3_undoBehind 36 = .ok (.imul, 1) := by decide +kernel
theorem dX3_undoBehind_37 : decode cX3_undoBehind 37 = .ok (.aload_n 0, 1) := by decide +kernel
theorem dX3_undoBehind_38 : decode cX3_undoBehind 38 = .ok (.getfield 18, 3) := by decide +kernel
theorem dX3_undoBehind_41 : decode cX3_undoBehind 41 = .ok (.iload 4, 2) := by decide +kernel
theorem dX3_undoBehind_43 : decode cX3_undoBehind 43 = .ok (.baload, 1) := by decide +kernel
theorem dX3_undoBehind_44 : decode cX3_undoBehind 44 = .ok (.invokevirtual 36, 3) := by decide +kernel
theorem dX3_undoBehind_47 : decode cX3_undoBehind 47 = .ok (.iinc 4 (-1), 3) := by decide +kernel
theorem dX3_undoBehind_50 : decode cX3_undoBehind 50 = .ok (.goto (-42), 3) := by decide +kernel
theorem dX3_undoBehind_53 : decode cX3_undoBehind 53 = .ok (.iload_n 1, 1) := by decide +kernel
theorem dX3_undoBehind_54 : decode cX3_undoBehind 54 = .ok (.ifCond .lt 31, 3) := by decide +kernel
theorem dX3_undoBehind_57 : decode cX3_undoBehind 57 = .ok (.iload_n 1, 1) := by decide +kernel
theorem dX3_undoBehind_58 : decode cX3_undoBehind 58 = .ok (.aload_n 0, 1) := by decide +kernel
theorem dX3_undoBehind_59 : decode cX3_undoBehind 59 = .ok (.getfield 22, 3) := by decide +kernel
theorem dX3_undoBehind_62 : decode cX3_undoBehind 62 = .ok (.if_icmp .ge 23, 3) := by decide +kernel
theorem dX3_undoBehind_65 : decode cX3_undoBehind 65 = .ok (.aload_n 3, 1) := by decide +kernel
theorem dX3_undoBehind_66 : decode cX3_undoBehind 66 = .ok (.aload_n 0, 1) := by decide +kernel
theorem dX3_undoBehind_67 : decode cX3_undoBehind 67 = .ok (.getfield 9, 3) := by decide +kernel
theorem dX3_undoBehind_70 : decode cX3_undoBehind 70 = .ok (.iload_n 1, 1) := by decide +kernel
theorem dX3_undoBehind_71 : decode cX3_undoBehind 71 = .ok (.iaload, 1) := by decide +kernel
theorem dX3_undoBehind_72 : decode cX3_undoBehind 72 = .ok (.iload_n 2, 1) := by decide +kernel
theorem dX3_undoBehind_73 : decode cX3_undoBehind 73 = .ok (.aload_n 0, 1) := by decide +kernel
theorem dX3_undoBehind_74 : decode cX3_undoBehind 74 = .ok (.getfield 15, 3) := by decide +kernel
theorem dX3_undoBehind_77 : decode cX3_undoBehind 77 = .ok (.iload_n 1, 1) := by decide +kernel
theorem dX3_undoBehind_78 : decode cX3_undoBehind 78 = .ok (.bipush 32, 2) := by decide +kernel
theorem dX3_undoBehind_80 : decode cX3_undoBehind 80 = .ok (.imul, 1) := by decide +kernel
theorem dX3_undoBehind_81 : decode cX3_undoBehind 81 = .ok (.iconst 0, 1) := by decide +kernel
theorem dX3_undoBehind_82 : decode cX3_undoBehind 82 = .ok (.invokevirtual 36, 3) := by decide +kernel
theorem dX3_undoBehind_85 : decode cX3_undoBehind 85 = .ok (.return_, 1) := by decide +kernel
end
section
theorem dX4_cell_0 : decode cX4_cell 0 = .ok (.iload_n 1, 1) := by decide +kernel
theorem dX4_cell_1 : decode cX4_cell 1 = .ok (.ifCond .lt 25, 3) := by decide +kernel
theorem dX4_cell_4 : decode cX4_cell 4 = .ok (.iload_n 1, 1) := by decide +kernel
theorem dX4_cell_5 : decode cX4_cell 5 = .ok (.aload_n 0, 1) := by decide +kernel
theorem dX4_cell_6 : decode cX4_cell 6 = .ok (.getfield 18, 3) := by decide +kernel
theorem dX4_cell_9 : decode cX4_cell 9 = .ok (.if_icmp .ge 17, 3) := by decide +kernel
theorem dX4_cell_12 : decode cX4_cell 12 = .ok (.iload_n 2, 1) := by decide +kernel
theorem dX4_cell_13 : decode cX4_cell 13 = .ok (.ifCond .lt 13, 3) := by decide +kernel
theorem dX4_cell_16 : decode cX4_cell 16 = .ok (.iload_n 2, 1) := by decide +kernel
theorem dX4_cell_17 : decode cX4_cell 17 = .ok (.bipush 32, 2) := by decide +kernel
theorem dX4_cell_19 : decode cX4_cell 19 = .ok (.if_icmp .ge 7, 3) := by decide +kernel
theorem dX4_cell_22 : decode cX4_cell 22 = .ok (.iconst 1, 1) := by decide +kernel
theorem dX4_cell_23 : decode cX4_cell 23 = .ok (.goto 4, 3) := by decide +kernel
theorem dX4_cell_26 : decode cX4_cell 26 = .ok (.iconst 0, 1) := by decide +kernel
theorem dX4_cell_27 : decode cX4_cell 27 = .ok (.istore_n 3, 1) := by decide +kernel
theorem dX4_cell_28 : decode cX4_cell 28 = .ok (.iload_n 3, 1) := by decide +kernel
theorem dX4_cell_29 : decode cX4_cell 29 = .ok (.ifCond .eq 17, 3) := by decide +kernel
theorem dX4_cell_32 : decode cX4_cell 32 = .ok (.aload_n 0, 1) := by decide +kernel
theorem dX4_cell_33 : decode cX4_cell 33 = .ok (.getfield 24, 3) := by decide +kernel
theorem dX4_cell_36 : decode cX4_cell 36 = .ok (.iload_n 1, 1) := by decide +kernel
theorem dX4_cell_37 : decode cX4_cell 37 = .ok (.bipush 32, 2) := by decide +kernel
theorem dX4_cell_39 : decode cX4_cell 39 = .ok (.imul, 1) := by decide +kernel
theorem dX4_cell_40 : decode cX4_cell 40 = .ok (.iload_n 2, 1) := by decide +kernel
theorem dX4_cell_41 : decode cX4_cell 41 = .ok (.iadd, 1) := by decide +kernel
theorem dX4_cell_42 : decode cX4_cell 42 = .ok (.iaload, 1) := by decide +kernel
theorem dX4_cell_43 : decode cX4_cell 43 = .ok (.goto 4, 3) := by decide +kernel
theorem dX4_cell_46 : decode cX4_cell 46 = .ok (.iconst 0, 1) := by decide +kernel
theorem dX4_cell_47 : decode cX4_cell 47 = .ok (.ireturn, 1) := by decide +kernel
theorem dX4_count_0 : decode cX4_count 0 = .ok (.aload_n 0, 1) := by decide +kernel
theorem dX4_count_1 : decode cX4_count 1 = .ok (.getfield 18, 3) := by decide +kernel
theorem dX4_count_4 : decode cX4_count 4 = .ok (.ireturn, 1) := by decide +kernel
theorem dX4_countLost_0 : decode cX4_countLost 0 = .ok (.iconst 0, 1) := by decide +kernel
theorem dX4_countLost_1 : decode cX4_countLost 1 = .ok (.istore_n 1, 1) := by decide +kernel
theorem dX4_countLost_2 : decode cX4_countLost 2 = .ok (.iconst 0, 1) := by decide +kernel
theorem dX4_countLost_3 : decode cX4_countLost 3 = .ok (.istore_n 2, 1) := by decide +kernel
theorem dX4_countLost_4 : decode cX4_countLost 4 = .ok (.iload_n 2, 1) := by decide +kernel
theorem dX4_countLost_5 : decode cX4_countLost 5 = .ok (.aload_n 0, 1) := by decide +kernel
theorem dX4_countLost_6 : decode cX4_countLost 6 = .ok (.getfield 18, 3) := by decide +kernel
theorem dX4_countLost_9 : decode cX4_countLost 9 = .ok (.if_icmp .ge 21, 3) := by decide +kernel
theorem dX4_countLost_12 : decode cX4_countLost 12 = .ok (.aload_n 0, 1) := by decide +kernel
theorem dX4_countLost_13 : decode cX4_countLost 13 = .ok (.getfield 28, 3) := by decide +kernel
theorem dX4_countLost_16 : decode cX4_countLost 16 = .ok (.iload_n 2, 1) := by decide +kernel
theorem dX4_countLost_17 : decode cX4_countLost 17 = .ok (.baload, 1) := by decide +kernel
theorem dX4_countLost_18 : decode cX4_countLost 18 = .ok (.ifCond .eq 6, 3) := by decide +kernel
theorem dX4_countLost_21 : decode cX4_countLost 21 = .ok (.iinc 1 1, 3) := by decide +kernel
theorem dX4_countLost_24 : decode cX4_countLost 24 = .ok (.iinc 2 1, 3) := by decide +kernel
theorem dX4_countLost_27 : decode cX4_countLost 27 = .ok (.goto (-23), 3) := by decide +kernel
theorem dX4_countLost_30 : decode cX4_countLost 30 = .ok (.iload_n 1, 1) := by decide +kernel
theorem dX4_countLost_31 : decode cX4_countLost 31 = .ok (.ireturn, 1) := by decide +kernel
theorem dX4_has_0 : decode cX4_has 0 = .ok (.iload_n 1, 1) := by decide +kernel
theorem dX4_has_1 : decode cX4_has 1 = .ok (.ifCond .lt 15, 3) := by decide +kernel
theorem dX4_has_4 : decode cX4_has 4 = .ok (.iload_n 1, 1) := by decide +kernel
theorem dX4_has_5 : decode cX4_has 5 = .ok (.aload_n 0, 1) := by decide +kernel
theorem dX4_has_6 : decode cX4_has 6 = .ok (.getfield 18, 3) := by decide +kernel
theorem dX4_has_9 : decode cX4_has 9 = .ok (.if_icmp .ge 7, 3) := by decide +kernel
theorem dX4_has_12 : decode cX4_has 12 = .ok (.iconst 1, 1) := by decide +kernel
theorem dX4_has_13 : decode cX4_has 13 = .ok (.goto 4, 3) := by decide +kernel
theorem dX4_has_16 : decode cX4_has 16 = .ok (.iconst 0, 1) := by decide +kernel
theorem dX4_has_17 : decode cX4_has 17 = .ok (.ireturn, 1) := by decide +kernel
theorem dX4_hasCell_0 : decode cX4_hasCell 0 = .ok (.iload_n 1, 1) := by decide +kernel
theorem dX4_hasCell_1 : decode cX4_hasCell 1 = .ok (.ifCond .lt 25, 3) := by decide +kernel
theorem dX4_hasCell_4 : decode cX4_hasCell 4 = .ok (.iload_n 1, 1) := by decide +kernel
theorem dX4_hasCell_5 : decode cX4_hasCell 5 = .ok (.aload_n 0, 1) := by decide +kernel
theorem dX4_hasCell_6 : decode cX4_hasCell 6 = .ok (.getfield 18, 3) := by decide +kernel
theorem dX4_hasCell_9 : decode cX4_hasCell 9 = .ok (.if_icmp .ge 17, 3) := by decide +kernel
theorem dX4_hasCell_12 : decode cX4_hasCell 12 = .ok (.iload_n 2, 1) := by decide +kernel
theorem dX4_hasCell_13 : decode cX4_hasCell 13 = .ok (.ifCond .lt 13, 3) := by decide +kernel
theorem dX4_hasCell_16 : decode cX4_hasCell 16 = .ok (.iload_n 2, 1) := by decide +kernel
theorem dX4_hasCell_17 : decode cX4_hasCell 17 = .ok (.bipush 32, 2) := by decide +kernel
theorem dX4_hasCell_19 : decode cX4_hasCell 19 = .ok (.if_icmp .ge 7, 3) := by decide +kernel
theorem dX4_hasCell_22 : decode cX4_hasCell 22 = .ok (.iconst 1, 1) := by decide +kernel
theorem dX4_hasCell_23 : decode cX4_hasCell 23 = .ok (.goto 4, 3) := by decide +kernel
theorem dX4_hasCell_26 : decode cX4_hasCell 26 = .ok (.iconst 0, 1) := by decide +kernel
theorem dX4_hasCell_27 : decode cX4_hasCell 27 = .ok (.ireturn, 1) := by decide +kernel
theorem dX4_init_0 : decode cX4_init 0 = .ok (.aload_n 0, 1) := by decide +kernel
theorem dX4_init_1 : decode cX4_init 1 = .ok (.invokespecial 3, 3) := by decide +kernel
theorem dX4_init_4 : decode cX4_init 4 = .ok (.aload_n 0, 1) := by decide +kernel
theorem dX4_init_5 : decode cX4_init 5 = .ok (.bipush 8, 2) := by decide +kernel
theorem dX4_init_7 : decode cX4_init 7 = .ok (.iload_n 1, 1) := by decide +kernel
theorem dX4_init_8 : decode cX4_init 8 = .ok (.bipush 60, 2) := by decide +kernel
theorem dX4_init_10 : decode cX4_init 10 = .ok (.invokestatic 9, 3) := by decide +kernel
theorem dX4_init_13 : decode cX4_init 13 = .ok (.invokestatic 15, 3) := by decide +kernel
theorem dX4_init_16 : decode cX4_init 16 = .ok (.putfield 18, 3) := by decide +kernel
theorem dX4_init_19 : decode cX4_init 19 = .ok (.aload_n 0, 1) := by decide +kernel
theorem dX4_init_20 : decode cX4_init 20 = .ok (.aload_n 0, 1) := by decide +kernel
theorem dX4_init_21 : decode cX4_init 21 = .ok (.getfield 18, 3) := by decide +kernel
theorem dX4_init_24 : decode cX4_init 24 = .ok (.bipush 32, 2) := by decide +kernel
theorem dX4_init_26 : decode cX4_init 26 = .ok (.imul, 1) := by decide +kernel
theorem dX4_init_27 : decode cX4_init 27 = .ok (.newarray .int, 2) := by decide +kernel
theorem dX4_init_29 : decode cX4_init 29 = .ok (.putfield 24, 3) := by decide +kernel
theorem dX4_init_32 : decode cX4_init 32 = .ok (.aload_n 0, 1) := by decide +kernel
theorem dX4_init_33 : decode cX4_init 33 = .ok (.aload_n 0, 1) := by decide +kernel
theorem dX4_init_34 : decode cX4_init 34 = .ok (.getfield 18, 3) := by decide +kernel
theorem dX4_init_37 : decode cX4_init 37 = .ok (.newarray .boolean, 2) := by decide +kernel
theorem dX4_init_39 : decode cX4_init 39 = .ok (.putfield 28, 3) := by decide +kernel
theorem dX4_init_42 : decode cX4_init 42 = .ok (.aload_n 0, 1) := by decide +kernel
theorem dX4_init_43 : decode cX4_init 43 = .ok (.aload_n 0, 1) := by decide +kernel
theorem dX4_init_44 : decode cX4_init 44 = .ok (.getfield 18, 3) := by decide +kernel
theorem dX4_init_47 : decode cX4_init 47 = .ok (.newarray .int, 2) := by decide +kernel
theorem dX4_init_49 : decode cX4_init 49 = .ok (.putfield 32, 3) := by decide +kernel
theorem dX4_init_52 : decode cX4_init 52 = .ok (.return_, 1) := by decide +kernel
theorem dX4_content_0 : decode cX4_content 0 = .ok (.iload_n 2, 1) := by decide +kernel
theorem dX4_content_1 : decode cX4_content 1 = .ok (.ifCond .lt 20, 3) := by decide +kernel
theorem dX4_content_4 : decode cX4_content 4 = .ok (.iload_n 2, 1) := by decide +kernel
theorem dX4_content_5 : decode cX4_content 5 = .ok (.bipush 24, 2) := by decide +kernel
theorem dX4_content_7 : decode cX4_content 7 = .ok (.if_icmp .ge 14, 3) := by decide +kernel
theorem dX4_content_10 : decode cX4_content 10 = .ok (.aload_n 0, 1) := by decide +kernel
theorem dX4_content_11 : decode cX4_content 11 = .ok (.iload_n 1, 1) := by decide +kernel
theorem dX4_content_12 : decode cX4_content 12 = .ok (.iconst 4, 1) := by decide +kernel
theorem dX4_content_13 : decode cX4_content 13 = .ok (.iload_n 2, 1) := by decide +kernel
theorem dX4_content_14 : decode cX4_content 14 = .ok (.iadd, 1) := by decide +kernel
theorem dX4_content_15 : decode cX4_content 15 = .ok (.invokevirtual 35, 3) := by decide +kernel
theorem dX4_content_18 : decode cX4_content 18 = .ok (.goto 4, 3) := by decide +kernel
theorem dX4_content_21 : decode cX4_content 21 = .ok (.iconst 0, 1) := by decide +kernel
theorem dX4_content_22 : decode cX4_content 22 = .ok (.ireturn, 1) := by decide +kernel
theorem dX4_copyTo_0 : decode cX4_copyTo 0 = .ok (.aload_n 0, 1) := by decide +kernel
theorem dX4_copyTo_1 : decode cX4_copyTo 1 = .ok (.iload_n 1, 1) := by decide +kernel
theorem dX4_copyTo_2 : decode cX4_copyTo 2 = .ok (.invokevirtual 38, 3) := by decide +kernel
theorem dX4_copyTo_5 : decode cX4_copyTo 5 = .ok (.ifCond .eq 31, 3) := by decide +kernel
theorem dX4_copyTo_8 : decode cX4_copyTo 8 = .ok (.iload_n 3, 1) := by decide +kernel
theorem dX4_copyTo_9 : decode cX4_copyTo 9 = .ok (.ifCond .lt 27, 3) := by decide +kernel
theorem dX4_copyTo_12 : decode cX4_copyTo 12 = .ok (.iload_n 3, 1) := by decide +kernel
theorem dX4_copyTo_13 : decode cX4_copyTo 13 = .ok (.aload_n 2, 1) := by decide +kernel
theorem dX4_copyTo_14 : decode cX4_copyTo 14 = .ok (.arraylength, 1) := by decide +kernel
theorem dX4_copyTo_15 : decode cX4_copyTo 15 = .ok (.bipush 32, 2) := by decide +kernel
theorem dX4_copyTo_17 : decode cX4_copyTo 17 = .ok (.isub, 1) := by decide +kernel
theorem dX4_copyTo_18 : decode cX4_copyTo 18 = .ok (.if_icmp .gt 18, 3) := by decide +kernel
theorem dX4_copyTo_21 : decode cX4_copyTo 21 = .ok (.aload_n 0, 1) := by decide +kernel
theorem dX4_copyTo_22 : decode cX4_copyTo 22 = .ok (.getfield 24, 3) := by decide +kernel
theorem dX4_copyTo_25 : decode cX4_copyTo 25 = .ok (.iload_n 1, 1) := by decide +kernel
theorem dX4_copyTo_26 : decode cX4_copyTo 26 = .ok (.bipush 32, 2) := by decide +kernel
theorem dX4_copyTo_28 : decode cX4_copyTo 28 = .ok (.imul, 1) := by decide +kernel
theorem dX4_copyTo_29 : decode cX4_copyTo 29 = .ok (.aload_n 2, 1) := by decide +kernel
theorem dX4_copyTo_30 : decode cX4_copyTo 30 = .ok (.iload_n 3, 1) := by decide +kernel
theorem dX4_copyTo_31 : decode cX4_copyTo 31 = .ok (.bipush 32, 2) := by decide +kernel
theorem dX4_copyTo_33 : decode cX4_copyTo 33 = .ok (.invokestatic 55, 3) := by decide +kernel
theorem dX4_copyTo_36 : decode cX4_copyTo 36 = .ok (.return_, 1) := by decide +kernel
theorem dX4_hasContentOf_0 : decode cX4_hasContentOf 0 = .ok (.iconst 4, 1) := by decide +kernel
theorem dX4_hasContentOf_1 : decode cX4_hasContentOf 1 = .ok (.istore_n 3, 1) := by decide +kernel
theorem dX4_hasContentOf_2 : decode cX4_hasContentOf 2 = .ok (.iload_n 3, 1) := by decide +kernel
theorem dX4_hasContentOf_3 : decode cX4_hasContentOf 3 = .ok (.bipush 28, 2) := by decide +kernel
theorem dX4_hasContentOf_5 : decode cX4_hasContentOf 5 = .ok (.if_icmp .ge 25, 3) := by decide +kernel
theorem dX4_hasContentOf_8 : decode cX4_hasContentOf 8 = .ok (.aload_n 0, 1) := by decide +kernel
theorem dX4_hasContentOf_9 : decode cX4_hasContentOf 9 = .ok (.iload_n 1, 1) := by decide +kernel
theorem dX4_hasContentOf_10 : decode cX4_hasContentOf 10 = .ok (.iload_n 3, 1) := by decide +kernel
theorem dX4_hasContentOf_11 : decode cX4_hasContentOf 11 = .ok (.invokevirtual 35, 3) := by decide +kernel
theorem dX4_hasContentOf_14 : decode cX4_hasContentOf 14 = .ok (.aload_n 2, 1) := by decide +kernel
theorem dX4_hasContentOf_15 : decode cX4_hasContentOf 15 = .ok (.iload_n 3, 1) := by decide +kernel
theorem dX4_hasContentOf_16 : decode cX4_hasContentOf 16 = .ok (.invokevirtual 42, 3) := by decide +kernel
theorem dX4_hasContentOf_19 : decode cX4_hasContentOf 19 = .ok (.if_icmp .eq 5, 3) := by decide +kernel
theorem dX4_hasContentOf_22 : decode cX4_hasContentOf 22 = .ok (.iconst 0, 1) := by decide +kernel
theorem dX4_hasContentOf_23 : decode cX4_hasContentOf 23 = .ok (.ireturn, 1) := by decide +kernel
theorem dX4_hasContentOf_24 : decode cX4_hasContentOf 24 = .ok (.iinc 3 1, 3) := by decide +kernel
theorem dX4_hasContentOf_27 : decode cX4_hasContentOf 27 = .ok (.goto (-25), 3) := by decide +kernel
theorem dX4_hasContentOf_30 : decode cX4_hasContentOf 30 = .ok (.iconst 1, 1) := by decide +kernel
theorem dX4_hasContentOf_31 : decode cX4_hasContentOf 31 = .ok (.ireturn, 1) := by decide +kernel
theorem dX4_isLost_0 : decode cX4_isLost 0 = .ok (.aload_n 0, 1) := by decide +kernel
theorem dX4_isLost_1 : decode cX4_isLost 1 = .ok (.iload_n 1, 1) := by decide +kernel
theorem dX4_isLost_2 : decode cX4_isLost 2 = .ok (.invokevirtual 38, 3) := by decide +kernel
theorem dX4_isLost_5 : decode cX4_isLost 5 = .ok (.ifCond .eq 16, 3) := by decide +kernel
theorem dX4_isLost_8 : decode cX4_isLost 8 = .ok (.aload_n 0, 1) := by decide +kernel
theorem dX4_isLost_9 : decode cX4_isLost 9 = .ok (.getfield 28, 3) := by decide +kernel
theorem dX4_isLost_12 : decode cX4_isLost 12 = .ok (.iload_n 1, 1) := by decide +kernel
theorem dX4_isLost_13 : decode cX4_isLost 13 = .ok (.baload, 1) := by decide +kernel
theorem dX4_isLost_14 : decode cX4_isLost 14 = .ok (.ifCond .eq 7, 3) := by decide +kernel
theorem dX4_isLost_17 : decode cX4_isLost 17 = .ok (.iconst 1, 1) := by decide +kernel
theorem dX4_isLost_18 : decode cX4_isLost 18 = .ok (.goto 4, 3) := by decide +kernel
theorem dX4_isLost_21 : decode cX4_isLost 21 = .ok (.iconst 0, 1) := by decide +kernel
theorem dX4_isLost_22 : decode cX4_isLost 22 = .ok (.ireturn, 1) := by decide +kernel
theorem dX4_judge_0 : decode cX4_judge 0 = .ok (.aload_n 0, 1) := by decide +kernel
theorem dX4_judge_1 : decode cX4_judge 1 = .ok (.iload_n 1, 1) := by decide +kernel
theorem dX4_judge_2 : decode cX4_judge 2 = .ok (.invokevirtual 38, 3) := by decide +kernel
theorem dX4_judge_5 : decode cX4_judge 5 = .ok (.ifCond .ne 4, 3) := by decide +kernel
theorem dX4_judge_8 : decode cX4_judge 8 = .ok (.return_, 1) := by decide +kernel
theorem dX4_judge_9 : decode cX4_judge 9 = .ok (.iconst 0, 1) := by decide +kernel
theorem dX4_judge_10 : decode cX4_judge 10 = .ok (.istore_n 2, 1) := by decide +kernel
theorem dX4_judge_11 : decode cX4_judge 11 = .ok (.iconst 0, 1) := by decide +kernel
theorem dX4_judge_12 : decode cX4_judge 12 = .ok (.istore_n 3, 1) := by decide +kernel
theorem dX4_judge_13 : decode cX4_judge 13 = .ok (.iload_n 3, 1) := by decide +kernel
theorem dX4_judge_14 : decode cX4_judge 14 = .ok (.iconst 4, 1) := by decide +kernel
theorem dX4_judge_15 : decode cX4_judge 15 = .ok (.if_icmp .ge 24, 3) := by decide +kernel
theorem dX4_judge_18 : decode cX4_judge 18 = .ok (.iload_n 2, 1) := by decide +kernel
theorem dX4_judge_19 : decode cX4_judge 19 = .ok (.bipush 8, 2) := by decide +kernel
theorem dX4_judge_21 : decode cX4_judge 21 = .ok (.ishl, 1) := by decide +kernel
theorem dX4_judge_22 : decode cX4_judge 22 = .ok (.aload_n 0, 1) := by decide +kernel
theorem dX4_judge_23 : decode cX4_judge 23 = .ok (.iload_n 1, 1) := by decide +kernel
theorem dX4_judge_24 : decode cX4_judge 24 = .ok (.bipush 28, 2) := by decide +kernel
theorem dX4_judge_26 : decode cX4_judge 26 = .ok (.iload_n 3, 1) := by decide +kernel
theorem dX4_judge_27 : decode cX4_judge 27 = .ok (.iadd, 1) := by decide +kernel
theorem dX4_judge_28 : decode cX4_judge 28 = .ok (.invokevirtual 35, 3) := by decide +kernel
theorem dX4_judge_31 : decode cX4_judge 31 = .ok (.ior, 1) := by decide +kernel
theorem dX4_judge_32 : decode cX4_judge 32 = .ok (.istore_n 2, 1) := by decide +kernel
theorem dX4_judge_33 : decode cX4_judge 33 = .ok (.iinc 3 1, 3) := by decide +kernel
theorem dX4_judge_36 : decode cX4_judge 36 = .ok (.goto (-23), 3) := by decide +kernel
theorem dX4_judge_39 : decode cX4_judge 39 = .ok (.aload_n 0, 1) := by decide +kernel
theorem dX4_judge_40 : decode cX4_judge 40 = .ok (.iload_n 1, 1) := by decide +kernel
theorem dX4_judge_41 : decode cX4_judge 41 = .ok (.iconst 0, 1) := by decide +kernel
theorem dX4_judge_42 : decode cX4_judge 42 = .ok (.invokevirtual 35, 3) := by decide +kernel
theorem dX4_judge_45 : decode cX4_judge 45 = .ok (.istore_n 3, 1) := by decide +kernel
theorem dX4_judge_46 : decode cX4_judge 46 = .ok (.iload_n 3, 1) := by decide +kernel
theorem dX4_judge_47 : decode cX4_judge 47 = .ok (.iconst 1, 1) := by decide +kernel
theorem dX4_judge_48 : decode cX4_judge 48 = .ok (.if_icmp .lt 27, 3) := by decide +kernel
theorem dX4_judge_51 : decode cX4_judge 51 = .ok (.iload_n 3, 1) := by decide +kernel
theorem dX4_judge_52 : decode cX4_judge 52 = .ok (.iconst 4, 1) := by decide +kernel
theorem dX4_judge_53 : decode cX4_judge 53 = .ok (.if_icmp .gt 22, 3) := by decide +kernel
theorem dX4_judge_56 : decode cX4_judge 56 = .ok (.iload_n 2, 1) := by decide +kernel
theorem dX4_judge_57 : decode cX4_judge 57 = .ok (.aload_n 0, 1) := by decide +kernel
theorem dX4_judge_58 : decode cX4_judge 58 = .ok (.getfield 24, 3) := by decide +kernel
theorem dX4_judge_61 : decode cX4_judge 61 = .ok (.iload_n 1, 1) := by decide +kernel
theorem dX4_judge_62 : decode cX4_judge 62 = .ok (.bipush 32, 2) := by decide +kernel
theorem dX4_judge_64 : decode cX4_judge 64 = .ok (.imul, 1) := by decide +kernel
theorem dX4_judge_65 : decode cX4_judge 65 = .ok (.invokestatic 61, 3) := by decide +kernel
theorem dX4_judge_68 : decode cX4_judge 68 = .ok (.if_icmp .ne 7, 3) := by decide +kernel
theorem dX4_judge_71 : decode cX4_judge 71 = .ok (.iconst 1, 1) := by decide +kernel
theorem dX4_judge_72 : decode cX4_judge 72 = .ok (.goto 4, 3) := by decide +kernel
theorem dX4_judge_75 : decode cX4_judge 75 = .ok (.iconst 0, 1) := by decide +kernel
theorem dX4_judge_76 : decode cX4_judge 76 = .ok (.istore 4, 2) := by decide +kernel
theorem dX4_judge_78 : decode cX4_judge 78 = .ok (.aload_n 0, 1) := by decide +kernel
theorem dX4_judge_79 : decode cX4_judge 79 = .ok (.getfield 32, 3) := by decide +kernel
theorem dX4_judge_82 : decode cX4_judge 82 = .ok (.iload_n 1, 1) := by decide +kernel
theorem dX4_judge_83 : decode cX4_judge 83 = .ok (.iload 4, 2) := by decide +kernel
theorem dX4_judge_85 : decode cX4_judge 85 = .ok (.ifCond .eq 16, 3) := by decide +kernel
theorem dX4_judge_88 : decode cX4_judge 88 = .ok (.aload_n 0, 1) := by decide +kernel
theorem dX4_judge_89 : decode cX4_judge 89 = .ok (.getfield 28, 3) := by decide +kernel
theorem dX4_judge_92 : decode cX4_judge 92 = .ok (.iload_n 1, 1) := by decide +kernel
theorem dX4_judge_93 : decode cX4_judge 93 = .ok (.baload, 1) := by decide +kernel
theorem dX4_judge_94 : decode cX4_judge 94 = .ok (.ifCond .ne 7, 3) := by decide +kernel
theorem dX4_judge_97 : decode cX4_judge 97 = .ok (.iload_n 3, 1) := by decide +kernel
theorem dX4_judge_98 : decode cX4_judge 98 = .ok (.goto 4, 3) := by decide +kernel
theorem dX4_judge_101 : decode cX4_judge 101 = .ok (.iconst 0, 1) := by decide +kernel
theorem dX4_judge_102 : decode cX4_judge 102 = .ok (.iastore, 1) := by decide +kernel
theorem dX4_judge_103 : decode cX4_judge 103 = .ok (.return_, 1) := by decide +kernel
theorem dX4_markLost_0 : decode cX4_markLost 0 = .ok (.aload_n 0, 1) := by decide +kernel
theorem dX4_markLost_1 : decode cX4_markLost 1 = .ok (.iload_n 1, 1) := by decide +kernel
theorem dX4_markLost_2 : decode cX4_markLost 2 = .ok (.invokevirtual 38, 3) := by decide +kernel
theorem dX4_markLost_5 : decode cX4_markLost 5 = .ok (.ifCond .eq 17, 3) := by decide +kernel
theorem dX4_markLost_8 : decode cX4_markLost 8 = .ok (.aload_n 0, 1) := by decide +kernel
theorem dX4_markLost_9 : decode cX4_markLost 9 = .ok (.getfield 28, 3) := by decide +kernel
theorem dX4_markLost_12 : decode cX4_markLost 12 = .ok (.iload_n 1, 1) := by decide +kernel
theorem dX4_markLost_13 : decode cX4_markLost 13 = .ok (.iconst 1, 1) := by decide +kernel
theorem dX4_markLost_14 : decode cX4_markLost 14 = .ok (.bastore, 1) := by decide +kernel
theorem dX4_markLost_15 : decode cX4_markLost 15 = .ok (.aload_n 0, 1) := by decide +kernel
theorem dX4_markLost_16 : decode cX4_markLost 16 = .ok (.getfield 32, 3) := by decide +kernel
theorem dX4_markLost_19 : decode cX4_markLost 19 = .ok (.iload_n 1, 1) := by decide +kernel
theorem dX4_markLost_20 : decode cX4_markLost 20 = .ok (.iconst 0, 1) := by decide +kernel
theorem dX4_markLost_21 : decode cX4_markLost 21 = .ok (.iastore, 1) := by decide +kernel
theorem dX4_markLost_22 : decode cX4_markLost 22 = .ok (.return_, 1) := by decide +kernel
theorem dX4_wholeSort_0 : decode cX4_wholeSort 0 = .ok (.aload_n 0, 1) := by decide +kernel
theorem dX4_wholeSort_1 : decode cX4_wholeSort 1 = .ok (.iload_n 1, 1) := by decide +kernel
theorem dX4_wholeSort_2 : decode cX4_wholeSort 2 = .ok (.invokevirtual 38, 3) := by decide +kernel
theorem dX4_wholeSort_5 : decode cX4_wholeSort 5 = .ok (.ifCond .eq 12, 3) := by decide +kernel
theorem dX4_wholeSort_8 : decode cX4_wholeSort 8 = .ok (.aload_n 0, 1) := by decide +kernel
theorem dX4_wholeSort_9 : decode cX4_wholeSort 9 = .ok (.getfield 32, 3) := by decide +kernel
theorem dX4_wholeSort_12 : decode cX4_wholeSort 12 = .ok (.iload_n 1, 1) := by decide +kernel
theorem dX4_wholeSort_13 : decode cX4_wholeSort 13 = .ok (.iaload, 1) := by decide +kernel
theorem dX4_wholeSort_14 : decode cX4_wholeSort 14 = .ok (.goto 4, 3) := by decide +kernel
theorem dX4_wholeSort_17 : decode cX4_wholeSort 17 = .ok (.iconst 0, 1) := by decide +kernel
theorem dX4_wholeSort_18 : decode cX4_wholeSort 18 = .ok (.ireturn, 1) := by decide +kernel
theorem dX4_flip_0 : decode cX4_flip 0 = .ok (.aload_n 0, 1) := by decide +kernel
theorem dX4_flip_1 : decode cX4_flip 1 = .ok (.iload_n 1, 1) := by decide +kernel
theorem dX4_flip_2 : decode cX4_flip 2 = .ok (.iload_n 2, 1) := by decide +kernel
theorem dX4_flip_3 : decode cX4_flip 3 = .ok (.invokevirtual 47, 3) := by decide +kernel
theorem dX4_flip_6 : decode cX4_flip 6 = .ok (.ifCond .eq 27, 3) := by decide +kernel
theorem dX4_flip_9 : decode cX4_flip 9 = .ok (.aload_n 0, 1) := by decide +kernel
theorem dX4_flip_10 : decode cX4_flip 10 = .ok (.getfield 24, 3) := by decide +kernel
theorem dX4_flip_13 : decode cX4_flip 13 = .ok (.iload_n 1, 1) := by decide +kernel
theorem dX4_flip_14 : decode cX4_flip 14 = .ok (.bipush 32, 2) := by decide +kernel
theorem dX4_flip_16 : decode cX4_flip 16 = .ok (.imul, 1) := by decide +kernel
theorem dX4_flip_17 : decode cX4_flip 17 = .ok (.iload_n 2, 1) := by decide +kernel
theorem dX4_flip_18 : decode cX4_flip 18 = .ok (.iadd, 1) := by decide +kernel
theorem dX4_flip_19 : decode cX4_flip 19 = .ok (.dup2, 1) := by decide +kernel
theorem dX4_flip_20 : decode cX4_flip 20 = .ok (.iaload, 1) := by decide +kernel
theorem dX4_flip_21 : decode cX4_flip 21 = .ok (.iload_n 3, 1) := by decide +kernel
theorem dX4_flip_22 : decode cX4_flip 22 = .ok (.sipush 255, 3) := by decide +kernel
theorem dX4_flip_25 : decode cX4_flip 25 = .ok (.iand, 1) := by decide +kernel
theorem dX4_flip_26 : decode cX4_flip 26 = .ok (.ixor, 1) := by decide +kernel
theorem dX4_flip_27 : decode cX4_flip 27 = .ok (.iastore, 1) := by decide +kernel
theorem dX4_flip_28 : decode cX4_flip 28 = .ok (.aload_n 0, 1) := by decide +kernel
theorem dX4_flip_29 : decode cX4_flip 29 = .ok (.iload_n 1, 1) := by decide +kernel
theorem dX4_flip_30 : decode cX4_flip 30 = .ok (.invokevirtual 51, 3) := by decide +kernel
theorem dX4_flip_33 : decode cX4_flip 33 = .ok (.return_, 1) := by decide +kernel
theorem dX4_store_0 : decode cX4_store 0 = .ok (.aload_n 0, 1) := by decide +kernel
theorem dX4_store_1 : decode cX4_store 1 = .ok (.iload_n 1, 1) := by decide +kernel
theorem dX4_store_2 : decode cX4_store 2 = .ok (.invokevirtual 38, 3) := by decide +kernel
theorem dX4_store_5 : decode cX4_store 5 = .ok (.ifCond .ne 4, 3) := by decide +kernel
theorem dX4_store_8 : decode cX4_store 8 = .ok (.return_, 1) := by decide +kernel
theorem dX4_store_9 : decode cX4_store 9 = .ok (.iconst 0, 1) := by decide +kernel
theorem dX4_store_10 : decode cX4_store 10 = .ok (.istore 4, 2) := by decide +kernel
theorem dX4_store_12 : decode cX4_store 12 = .ok (.iload 4, 2) := by decide +kernel
theorem dX4_store_14 : decode cX4_store 14 = .ok (.iload_n 3, 1) := by decide +kernel
theorem dX4_store_15 : decode cX4_store 15 = .ok (.if_icmp .ge 34, 3) := by decide +kernel
theorem dX4_store_18 : decode cX4_store 18 = .ok (.iload 4, 2) := by decide +kernel
theorem dX4_store_20 : decode cX4_store 20 = .ok (.bipush 32, 2) := by decide +kernel
theorem dX4_store_22 : decode cX4_store 22 = .ok (.if_icmp .ge 27, 3) := by decide +kernel
theorem dX4_store_25 : decode cX4_store 25 = .ok (.aload_n 0, 1) := by decide +kernel
theorem dX4_store_26 : decode cX4_store 26 = .ok (.getfield 24, 3) := by decide +kernel
theorem dX4_store_29 : decode cX4_store 29 = .ok (.iload_n 1, 1) := by decide +kernel
theorem dX4_store_30 : decode cX4_store 30 = .ok (.bipush 32, 2) := by decide +kernel
theorem dX4_store_32 : decode cX4_store 32 = .ok (.imul, 1) := by decide +kernel
theorem dX4_store_33 : decode cX4_store 33 = .ok (.iload 4, 2) := by decide +kernel
theorem dX4_store_35 : decode cX4_store 35 = .ok (.iadd, 1) := by decide +kernel
theorem dX4_store_36 : decode cX4_store 36 = .ok (.aload_n 2, 1) := by decide +kernel
theorem dX4_store_37 : decode cX4_store 37 = .ok (.iload 4, 2) := by decide +kernel
theorem dX4_store_39 : decode cX4_store 39 = .ok (.invokevirtual 42, 3) := by decide +kernel
theorem dX4_store_42 : decode cX4_store 42 = .ok (.iastore, 1) := by decide +kernel
theorem dX4_store_43 : decode cX4_store 43 = .ok (.iinc 4 1, 3) := by decide +kernel
theorem dX4_store_46 : decode cX4_store 46 = .ok (.goto (-34), 3) := by decide +kernel
theorem dX4_store_49 : decode cX4_store 49 = .ok (.aload_n 0, 1) := by decide +kernel
theorem dX4_store_50 : decode cX4_store 50 = .ok (.getfield 28, 3) := by decide +kernel
theorem dX4_store_53 : decode cX4_store 53 = .ok (.iload_n 1, 1) := by decide +kernel
theorem dX4_store_54 : decode cX4_store 54 = .ok (.iconst 0, 1) := by decide +kernel
theorem dX4_store_55 : decode cX4_store 55 = .ok (.bastore, 1) := by decide +kernel
theorem dX4_store_56 : decode cX4_store 56 = .ok (.aload_n 0, 1) := by decide +kernel
theorem dX4_store_57 : decode cX4_store 57 = .ok (.iload_n 1, 1) := by decide +kernel
theorem dX4_store_58 : decode cX4_store 58 = .ok (.invokevirtual 51, 3) := by decide +kernel
theorem dX4_store_61 : decode cX4_store 61 = .ok (.return_, 1) := by decide +kernel
theorem dX4_takeBack_0 : decode cX4_takeBack 0 = .ok (.aload_n 0, 1) := by decide +kernel
theorem dX4_takeBack_1 : decode cX4_takeBack 1 = .ok (.iload_n 1, 1) := by decide +kernel
theorem dX4_takeBack_2 : decode cX4_takeBack 2 = .ok (.iload_n 2, 1) := by decide +kernel
theorem dX4_takeBack_3 : decode cX4_takeBack 3 = .ok (.invokevirtual 47, 3) := by decide +kernel
theorem dX4_takeBack_6 : decode cX4_takeBack 6 = .ok (.ifCond .eq 18, 3) := by decide +kernel
theorem dX4_takeBack_9 : decode cX4_takeBack 9 = .ok (.iload 4, 2) := by decide +kernel
theorem dX4_takeBack_11 : decode cX4_takeBack 11 = .ok (.ifCond .lt 13, 3) := by decide +kernel
theorem dX4_takeBack_14 : decode cX4_takeBack 14 = .ok (.iload 4, 2) := by decide +kernel
theorem dX4_takeBack_16 : decode cX4_takeBack 16 = .ok (.aload_n 3, 1) := by decide +kernel
theorem dX4_takeBack_17 : decode cX4_takeBack 17 = .ok (.arraylength, 1) := by decide +kernel
theorem dX4_takeBack_18 : decode cX4_takeBack 18 = .ok (.bipush 32, 2) := by decide +kernel
theorem dX4_takeBack_20 : decode cX4_takeBack 20 = .ok (.isub, 1) := by decide +kernel
theorem dX4_takeBack_21 : decode cX4_takeBack 21 = .ok (.if_icmp .le 4, 3) := by decide +kernel
theorem dX4_takeBack_24 : decode cX4_takeBack 24 = .ok (.return_, 1) := by decide +kernel
theorem dX4_takeBack_25 : decode cX4_takeBack 25 = .ok (.aload_n 3, 1) := by decide +kernel
theorem dX4_takeBack_26 : decode cX4_takeBack 26 = .ok (.iload 4, 2) := by decide +kernel
theorem dX4_takeBack_28 : decode cX4_takeBack 28 = .ok (.iload_n 2, 1) := by decide +kernel
theorem dX4_takeBack_29 : decode cX4_takeBack 29 = .ok (.iadd, 1) := by decide +kernel
theorem dX4_takeBack_30 : decode cX4_takeBack 30 = .ok (.aload_n 0, 1) := by decide +kernel
theorem dX4_takeBack_31 : decode cX4_takeBack 31 = .ok (.getfield 24, 3) := by decide +kernel
theorem dX4_takeBack_34 : decode cX4_takeBack 34 = .ok (.iload_n 1, 1) := by decide +kernel
theorem dX4_takeBack_35 : decode cX4_takeBack 35 = .ok (.bipush 32, 2) := by decide +kernel
theorem dX4_takeBack_37 : decode cX4_takeBack 37 = .ok (.imul, 1) := by decide +kernel
theorem dX4_takeBack_38 : decode cX4_takeBack 38 = .ok (.iload_n 2, 1) := by decide +kernel
theorem dX4_takeBack_39 : decode cX4_takeBack 39 = .ok (.iadd, 1) := by decide +kernel
theorem dX4_takeBack_40 : decode cX4_takeBack 40 = .ok (.bipush 32, 2) := by decide +kernel
theorem dX4_takeBack_42 : decode cX4_takeBack 42 = .ok (.iload_n 2, 1) := by decide +kernel
theorem dX4_takeBack_43 : decode cX4_takeBack 43 = .ok (.isub, 1) := by decide +kernel
theorem dX4_takeBack_44 : decode cX4_takeBack 44 = .ok (.invokestatic 55, 3) := by decide +kernel
theorem dX4_takeBack_47 : decode cX4_takeBack 47 = .ok (.aload_n 0, 1) := by decide +kernel
theorem dX4_takeBack_48 : decode cX4_takeBack 48 = .ok (.getfield 28, 3) := by decide +kernel
theorem dX4_takeBack_51 : decode cX4_takeBack 51 = .ok (.iload_n 1, 1) := by decide +kernel
theorem dX4_takeBack_52 : decode cX4_takeBack 52 = .ok (.iload 5, 2) := by decide +kernel
theorem dX4_takeBack_54 : decode cX4_takeBack 54 = .ok (.bastore, 1) := by decide +kernel
theorem dX4_takeBack_55 : decode cX4_takeBack 55 = .ok (.aload_n 0, 1) := by decide +kernel
theorem dX4_takeBack_56 : decode cX4_takeBack 56 = .ok (.iload_n 1, 1) := by decide +kernel
theorem dX4_takeBack_57 : decode cX4_takeBack 57 = .ok (.invokevirtual 51, 3) := by decide +kernel
theorem dX4_takeBack_60 : decode cX4_takeBack 60 = .ok (.return_, 1) := by decide +kernel
end
section
theorem dX5_blocksForLength_0 : decode cX5_blocksForLength 0 = .ok (.iload_n 0, 1) := by decide +kernel
theorem dX5_blocksForLength_1 : decode cX5_blocksForLength 1 = .ok (.bipush 24, 2) := by decide +kernel
theorem dX5_blocksForLength_3 : decode cX5_blocksForLength 3 = .ok (.iadd, 1) := by decide +kernel
theorem dX5_blocksForLength_4 : decode cX5_blocksForLength 4 = .ok (.iconst 1, 1) := by decide +kernel
theorem dX5_blocksForLength_5 : decode cX5_blocksForLength 5 = .ok (.isub, 1) := by decide +kernel
theorem dX5_blocksForLength_6 : decode cX5_blocksForLength 6 = .ok (.bipush 24, 2) := by decide +kernel
theorem dX5_blocksForLength_8 : decode cX5_blocksForLength 8 = .ok (.idiv, 1) := by decide +kernel
theorem dX5_blocksForLength_9 : decode cX5_blocksForLength 9 = .ok (.iconst 4, 1) := by decide +kernel
theorem dX5_blocksForLength_10 : decode cX5_blocksForLength 10 = .ok (.invokestatic 215, 3) := by decide +kernel
theorem dX5_blocksForLength_13 : decode cX5_blocksForLength 13 = .ok (.ireturn, 1) := by decide +kernel
theorem dX5_headSector_0 : decode cX5_headSector 0 = .ok (.iload_n 0, 1) := by decide +kernel
theorem dX5_headSector_1 : decode cX5_headSector 1 = .ok (.iconst 1, 1) := by decide +kernel
theorem dX5_headSector_2 : decode cX5_headSector 2 = .ok (.iand, 1) := by decide +kernel
theorem dX5_headSector_3 : decode cX5_headSector 3 = .ok (.ireturn, 1) := by decide +kernel
theorem dX5_isInLog_0 : decode cX5_isInLog 0 = .ok (.iload_n 1, 1) := by decide +kernel
theorem dX5_isInLog_1 : decode cX5_isInLog 1 = .ok (.iconst 2, 1) := by decide +kernel
theorem dX5_isInLog_2 : decode cX5_isInLog 2 = .ok (.if_icmp .lt 15, 3) := by decide +kernel
theorem dX5_isInLog_5 : decode cX5_isInLog 5 = .ok (.iload_n 1, 1) := by decide +kernel
theorem dX5_isInLog_6 : decode cX5_isInLog 6 = .ok (.aload_n 0, 1) := by decide +kernel
theorem dX5_isInLog_7 : decode cX5_isInLog 7 = .ok (.getfield 50, 3) := by decide +kernel
theorem dX5_isInLog_10 : decode cX5_isInLog 10 = .ok (.if_icmp .ge 7, 3) := by decide +kernel
theorem dX5_isInLog_13 : decode cX5_isInLog 13 = .ok (.iconst 1, 1) := by decide +kernel
theorem dX5_isInLog_14 : decode cX5_isInLog 14 = .ok (.goto 4, 3) := by decide +kernel
theorem dX5_isInLog_17 : decode cX5_isInLog 17 = .ok (.iconst 0, 1) := by decide +kernel
theorem dX5_isInLog_18 : decode cX5_isInLog 18 = .ok (.ireturn, 1) := by decide +kernel
theorem dX5_isOpen_0 : decode cX5_isOpen 0 = .ok (.aload_n 0, 1) := by decide +kernel
theorem dX5_isOpen_1 : decode cX5_isOpen 1 = .ok (.getfield 54, 3) := by decide +kernel
theorem dX5_isOpen_4 : decode cX5_isOpen 4 = .ok (.iconst (-1), 1) := by decide +kernel
theorem dX5_isOpen_5 : decode cX5_isOpen 5 = .ok (.if_icmp .eq 7, 3) := by decide +kernel
theorem dX5_isOpen_8 : decode cX5_isOpen 8 = .ok (.iconst 1, 1) := by decide +kernel
theorem dX5_isOpen_9 : decode cX5_isOpen 9 = .ok (.goto 4, 3) := by decide +kernel
theorem dX5_isOpen_12 : decode cX5_isOpen 12 = .ok (.iconst 0, 1) := by decide +kernel
theorem dX5_isOpen_13 : decode cX5_isOpen 13 = .ok (.ireturn, 1) := by decide +kernel
theorem dX5_isRowNumber_0 : decode cX5_isRowNumber 0 = .ok (.iload_n 1, 1) := by decide +kernel
theorem dX5_isRowNumber_1 : decode cX5_isRowNumber 1 = .ok (.ifCond .lt 15, 3) := by decide +kernel
theorem dX5_isRowNumber_4 : decode cX5_isRowNumber 4 = .ok (.iload_n 1, 1) := by decide +kernel
theorem dX5_isRowNumber_5 : decode cX5_isRowNumber 5 = .ok (.aload_n 0, 1) := by decide +kernel
theorem dX5_isRowNumber_6 : decode cX5_isRowNumber 6 = .ok (.getfield 65, 3) := by decide +kernel
theorem dX5_isRowNumber_9 : decode cX5_isRowNumber 9 = .ok (.if_icmp .ge 7, 3) := by decide +kernel
theorem dX5_isRowNumber_12 : decode cX5_isRowNumber 12 = .ok (.iconst 1, 1) := by decide +kernel
theorem dX5_isRowNumber_13 : decode cX5_isRowNumber 13 = .ok (.goto 4, 3) := by decide +kernel
theorem dX5_isRowNumber_16 : decode cX5_isRowNumber 16 = .ok (.iconst 0, 1) := by decide +kernel
theorem dX5_isRowNumber_17 : decode cX5_isRowNumber 17 = .ok (.ireturn, 1) := by decide +kernel
theorem dX5_sumOf_0 : decode cX5_sumOf 0 = .ok (.iconst 0, 1) := by decide +kernel
theorem dX5_sumOf_1 : decode cX5_sumOf 1 = .ok (.istore_n 2, 1) := by decide +kernel
theorem dX5_sumOf_2 : decode cX5_sumOf 2 = .ok (.iload_n 1, 1) := by decide +kernel
theorem dX5_sumOf_3 : decode cX5_sumOf 3 = .ok (.ifCond .lt 12, 3) := by decide +kernel
theorem dX5_sumOf_6 : decode cX5_sumOf 6 = .ok (.iload_n 1, 1) := by decide +kernel
theorem dX5_sumOf_7 : decode cX5_sumOf 7 = .ok (.aload_n 0, 1) := by decide +kernel
theorem dX5_sumOf_8 : decode cX5_sumOf 8 = .ok (.arraylength, 1) := by decide +kernel
theorem dX5_sumOf_9 : decode cX5_sumOf 9 = .ok (.bipush 32, 2) := by decide +kernel
theorem dX5_sumOf_11 : decode cX5_sumOf 11 = .ok (.isub, 1) := by decide +kernel
theorem dX5_sumOf_12 : decode cX5_sumOf 12 = .ok (.if_icmp .le 5, 3) := by decide +kernel
theorem dX5_sumOf_15 : decode cX5_sumOf 15 = .ok (.iload_n 2, 1) := by decide +kernel
theorem dX5_sumOf_16 : decode cX5_sumOf 16 = .ok (.ireturn, 1) := by decide +kernel
theorem dX5_sumOf_17 : decode cX5_sumOf 17 = .ok (.iconst 0, 1) := by decide +kernel
theorem dX5_sumOf_18 : decode cX5_sumOf 18 = .ok (.istore_n 3, 1) := by decide +kernel
theorem dX5_sumOf_19 : decode cX5_sumOf 19 = .ok (.iload_n 3, 1) := by decide +kernel
theorem dX5_sumOf_20 : decode cX5_sumOf 20 = .ok (.bipush 28, 2) := by decide +kernel
theorem dX5_sumOf_22 : decode cX5_sumOf 22 = .ok (.if_icmp .ge 34, 3) := by decide +kernel
theorem dX5_sumOf_25 : decode cX5_sumOf 25 = .ok (.iload_n 2, 1) := by decide +kernel
theorem dX5_sumOf_26 : decode cX5_sumOf 26 = .ok (.aload_n 0, 1) := by decide +kernel
theorem dX5_sumOf_27 : decode cX5_sumOf 27 = .ok (.iload_n 1, 1) := by decide +kernel
theorem dX5_sumOf_28 : decode cX5_sumOf 28 = .ok (.iload_n 3, 1) := by decide +kernel
theorem dX5_sumOf_29 : decode cX5_sumOf 29 = .ok (.iadd, 1) := by decide +kernel
theorem dX5_sumOf_30 : decode cX5_sumOf 30 = .ok (.iaload, 1) := by decide +kernel
theorem dX5_sumOf_31 : decode cX5_sumOf 31 = .ok (.ixor, 1) := by decide +kernel
theorem dX5_sumOf_32 : decode cX5_sumOf 32 = .ok (.istore 4, 2) := by decide +kernel
theorem dX5_sumOf_34 : decode cX5_sumOf 34 = .ok (.iload 4, 2) := by decide +kernel
theorem dX5_sumOf_36 : decode cX5_sumOf 36 = .ok (.bipush 7, 2) := by decide +kernel
theorem dX5_sumOf_38 : decode cX5_sumOf 38 = .ok (.ishl, 1) := by decide +kernel
theorem dX5_sumOf_39 : decode cX5_sumOf 39 = .ok (.iload 4, 2) := by decide +kernel
theorem dX5_sumOf_41 : decode cX5_sumOf 41 = .ok (.bipush 25, 2) := by decide +kernel
theorem dX5_sumOf_43 : decode cX5_sumOf 43 = .ok (.iushr, 1) := by decide +kernel
theorem dX5_sumOf_44 : decode cX5_sumOf 44 = .ok (.ior, 1) := by decide +kernel
theorem dX5_sumOf_45 : decode cX5_sumOf 45 = .ok (.ldc_w 274, 3) := by decide +kernel
theorem dX5_sumOf_48 : decode cX5_sumOf 48 = .ok (.imul, 1) := by decide +kernel
theorem dX5_sumOf_49 : decode cX5_sumOf 49 = .ok (.istore_n 2, 1) := by decide +kernel
theorem dX5_sumOf_50 : decode cX5_sumOf 50 = .ok (.iinc 3 1, 3) := by decide +kernel
theorem dX5_sumOf_53 : decode cX5_sumOf 53 = .ok (.goto (-34), 3) := by decide +kernel
theorem dX5_sumOf_56 : decode cX5_sumOf 56 = .ok (.iload_n 2, 1) := by decide +kernel
theorem dX5_sumOf_57 : decode cX5_sumOf 57 = .ok (.ireturn, 1) := by decide +kernel
theorem dX5_add_0 : decode cX5_add 0 = .ok (.iload_n 3, 1) := by decide +kernel
theorem dX5_add_1 : decode cX5_add 1 = .ok (.iconst 1, 1) := by decide +kernel
theorem dX5_add_2 : decode cX5_add 2 = .ok (.if_icmp .lt 9, 3) := by decide +kernel
theorem dX5_add_5 : decode cX5_add 5 = .ok (.iload_n 3, 1) := by decide +kernel
theorem dX5_add_6 : decode cX5_add 6 = .ok (.bipush 8, 2) := by decide +kernel
theorem dX5_add_8 : decode cX5_add 8 = .ok (.if_icmp .le 6, 3) := by decide +kernel
theorem dX5_add_11 : decode cX5_add 11 = .ok (.bipush (-2), 2) := by decide +kernel
theorem dX5_add_13 : decode cX5_add 13 = .ok (.ireturn, 1) := by decide +kernel
theorem dX5_add_14 : decode cX5_add 14 = .ok (.aload_n 0, 1) := by decide +kernel
theorem dX5_add_15 : decode cX5_add 15 = .ok (.getfield 46, 3) := by decide +kernel
theorem dX5_add_18 : decode cX5_add 18 = .ok (.ifCond .eq 10, 3) := by decide +kernel
theorem dX5_add_21 : decode cX5_add 21 = .ok (.aload_n 0, 1) := by decide +kernel
theorem dX5_add_22 : decode cX5_add 22 = .ok (.invokevirtual 57, 3) := by decide +kernel
theorem dX5_add_25 : decode cX5_add 25 = .ok (.ifCond .ne 6, 3) := by decide +kernel
theorem dX5_add_28 : decode cX5_add 28 = .ok (.bipush (-3), 2) := by decide +kernel
theorem dX5_add_30 : decode cX5_add 30 = .ok (.ireturn, 1) := by decide +kernel
theorem dX5_add_31 : decode cX5_add 31 = .ok (.aload_n 0, 1) := by decide +kernel
theorem dX5_add_32 : decode cX5_add 32 = .ok (.getfield 54, 3) := by decide +kernel
theorem dX5_add_35 : decode cX5_add 35 = .ok (.iload_n 3, 1) := by decide +kernel
theorem dX5_add_36 : decode cX5_add 36 = .ok (.iadd, 1) := by decide +kernel
theorem dX5_add_37 : decode cX5_add 37 = .ok (.bipush 96, 2) := by decide +kernel
theorem dX5_add_39 : decode cX5_add 39 = .ok (.if_icmp .le 6, 3) := by decide +kernel
theorem dX5_add_42 : decode cX5_add 42 = .ok (.bipush (-4), 2) := by decide +kernel
theorem dX5_add_44 : decode cX5_add 44 = .ok (.ireturn, 1) := by decide +kernel
theorem dX5_add_45 : decode cX5_add 45 = .ok (.iconst 0, 1) := by decide +kernel
theorem dX5_add_46 : decode cX5_add 46 = .ok (.istore 4, 2) := by decide +kernel
theorem dX5_add_48 : decode cX5_add 48 = .ok (.iload 4, 2) := by decide +kernel
theorem dX5_add_50 : decode cX5_add 50 = .ok (.iload_n 3, 1) := by decide +kernel
theorem dX5_add_51 : decode cX5_add 51 = .ok (.if_icmp .ge 33, 3) := by decide +kernel
theorem dX5_add_54 : decode cX5_add 54 = .ok (.aload_n 0, 1) := by decide +kernel
theorem dX5_add_55 : decode cX5_add 55 = .ok (.getfield 39, 3) := by decide +kernel
theorem dX5_add_58 : decode cX5_add 58 = .ok (.aload_n 0, 1) := by decide +kernel
theorem dX5_add_59 : decode cX5_add 59 = .ok (.getfield 54, 3) := by decide +kernel
theorem dX5_add_62 : decode cX5_add 62 = .ok (.iload 4, 2) := by decide +kernel
theorem dX5_add_64 : decode cX5_add 64 = .ok (.iadd, 1) := by decide +kernel
theorem dX5_add_65 : decode cX5_add 65 = .ok (.lload_n 1, 1) := by decide +kernel
theorem dX5_add_66 : decode cX5_add 66 = .ok (.bipush 8, 2) := by decide +kernel
theorem dX5_add_68 : decode cX5_add 68 = .ok (.iload 4, 2) := by decide +kernel
theorem dX5_add_70 : decode cX5_add 70 = .ok (.imul, 1) := by decide +kernel
theorem dX5_add_71 : decode cX5_add 71 = .ok (.lushr, 1) := by decide +kernel
theorem dX5_add_72 : decode cX5_add 72 = .ok (.l2i, 1) := by decide +kernel
theorem dX5_add_73 : decode cX5_add 73 = .ok (.sipush 255, 3) := by decide +kernel
theorem dX5_add_76 : decode cX5_add 76 = .ok (.iand, 1) := by decide +kernel
theorem dX5_add_77 : decode cX5_add 77 = .ok (.iastore, 1) := by decide +kernel
theorem dX5_add_78 : decode cX5_add 78 = .ok (.iinc 4 1, 3) := by decide +kernel
theorem dX5_add_81 : decode cX5_add 81 = .ok (.goto (-33), 3) := by decide +kernel
theorem dX5_add_84 : decode cX5_add 84 = .ok (.aload_n 0, 1) := by decide +kernel
theorem dX5_add_85 : decode cX5_add 85 = .ok (.dup, 1) := by decide +kernel
theorem dX5_add_86 : decode cX5_add 86 = .ok (.getfield 54, 3) := by decide +kernel
theorem dX5_add_89 : decode cX5_add 89 = .ok (.iload_n 3, 1) := by decide +kernel
theorem dX5_add_90 : decode cX5_add 90 = .ok (.iadd, 1) := by decide +kernel
theorem dX5_add_91 : decode cX5_add 91 = .ok (.putfield 54, 3) := by decide +kernel
theorem dX5_add_94 : decode cX5_add 94 = .ok (.aload_n 0, 1) := by decide +kernel
theorem dX5_add_95 : decode cX5_add 95 = .ok (.getfield 54, 3) := by decide +kernel
theorem dX5_add_98 : decode cX5_add 98 = .ok (.ireturn, 1) := by decide +kernel
theorem dX5_init_0 : decode cX5_init 0 = .ok (.aload_n 0, 1) := by decide +kernel
theorem dX5_init_1 : decode cX5_init 1 = .ok (.invokespecial 1, 3) := by decide +kernel
theorem dX5_init_4 : decode cX5_init 4 = .ok (.aload_n 0, 1) := by decide +kernel
theorem dX5_init_5 : decode cX5_init 5 = .ok (.new 7, 3) := by decide +kernel
theorem dX5_init_8 : decode cX5_init 8 = .ok (.dup, 1) := by decide +kernel
theorem dX5_init_9 : decode cX5_init 9 = .ok (.iload_n 1, 1) := by decide +kernel
theorem dX5_init_10 : decode cX5_init 10 = .ok (.invokespecial 9, 3) := by decide +kernel
theorem dX5_init_13 : decode cX5_init 13 = .ok (.putfield 12, 3) := by decide +kernel
theorem dX5_init_16 : decode cX5_init 16 = .ok (.aload_n 0, 1) := by decide +kernel
theorem dX5_init_17 : decode cX5_init 17 = .ok (.new 18, 3) := by decide +kernel
theorem dX5_init_20 : decode cX5_init 20 = .ok (.dup, 1) := by decide +kernel
theorem dX5_init_21 : decode cX5_init 21 = .ok (.invokespecial 20, 3) := by decide +kernel
theorem dX5_init_24 : decode cX5_init 24 = .ok (.putfield 21, 3) := by decide +kernel
theorem dX5_init_27 : decode cX5_init 27 = .ok (.aload_n 0, 1) := by decide +kernel
theorem dX5_init_28 : decode cX5_init 28 = .ok (.new 25, 3) := by decide +kernel
theorem dX5_init_31 : decode cX5_init 31 = .ok (.dup, 1) := by decide +kernel
theorem dX5_init_32 : decode cX5_init 32 = .ok (.invokespecial 27, 3) := by decide +kernel
theorem dX5_init_35 : decode cX5_init 35 = .ok (.putfield 28, 3) := by decide +kernel
theorem dX5_init_38 : decode cX5_init 38 = .ok (.aload_n 0, 1) := by decide +kernel
theorem dX5_init_39 : decode cX5_init 39 = .ok (.new 32, 3) := by decide +kernel
theorem dX5_init_42 : decode cX5_init 42 = .ok (.dup, 1) := by decide +kernel
theorem dX5_init_43 : decode cX5_init 43 = .ok (.invokespecial 34, 3) := by decide +kernel
theorem dX5_init_46 : decode cX5_init 46 = .ok (.putfield 35, 3) := by decide +kernel
theorem dX5_init_49 : decode cX5_init 49 = .ok (.aload_n 0, 1) := by decide +kernel
theorem dX5_init_50 : decode cX5_init 50 = .ok (.bipush 96, 2) := by decide +kernel
theorem dX5_init_52 : decode cX5_init 52 = .ok (.newarray .int, 2) := by decide +kernel
theorem dX5_init_54 : decode cX5_init 54 = .ok (.putfield 39, 3) := by decide +kernel
theorem dX5_init_57 : decode cX5_init 57 = .ok (.aload_n 0, 1) := by decide +kernel
theorem dX5_init_58 : decode cX5_init 58 = .ok (.iconst 4, 1) := by decide +kernel
theorem dX5_init_59 : decode cX5_init 59 = .ok (.newarray .int, 2) := by decide +kernel
theorem dX5_init_61 : decode cX5_init 61 = .ok (.putfield 43, 3) := by decide +kernel
theorem dX5_init_64 : decode cX5_init 64 = .ok (.aload_n 0, 1) := by decide +kernel
theorem dX5_init_65 : decode cX5_init 65 = .ok (.iconst 1, 1) := by decide +kernel
theorem dX5_init_66 : decode cX5_init 66 = .ok (.putfield 46, 3) := by decide +kernel
theorem dX5_init_69 : decode cX5_init 69 = .ok (.aload_n 0, 1) := by decide +kernel
theorem dX5_init_70 : decode cX5_init 70 = .ok (.iconst 2, 1) := by decide +kernel
theorem dX5_init_71 : decode cX5_init 71 = .ok (.putfield 50, 3) := by decide +kernel
theorem dX5_init_74 : decode cX5_init 74 = .ok (.aload_n 0, 1) := by decide +kernel
theorem dX5_init_75 : decode cX5_init 75 = .ok (.iconst (-1), 1) := by decide +kernel
theorem dX5_init_76 : decode cX5_init 76 = .ok (.putfield 54, 3) := by decide +kernel
theorem dX5_init_79 : decode cX5_init 79 = .ok (.return_, 1) := by decide +kernel
theorem dX5_lengthOfRow_0 : decode cX5_lengthOfRow 0 = .ok (.aload_n 0, 1) := by decide +kernel
theorem dX5_lengthOfRow_1 : decode cX5_lengthOfRow 1 = .ok (.getfield 12, 3) := by decide +kernel
theorem dX5_lengthOfRow_4 : decode cX5_lengthOfRow 4 = .ok (.iload_n 1, 1) := by decide +kernel
theorem dX5_lengthOfRow_5 : decode cX5_lengthOfRow 5 = .ok (.iconst 3, 1) := by decide +kernel
theorem dX5_lengthOfRow_6 : decode cX5_lengthOfRow 6 = .ok (.invokevirtual 170, 3) := by decide +kernel
theorem dX5_lengthOfRow_9 : decode cX5_lengthOfRow 9 = .ok (.ireturn, 1) := by decide +kernel
theorem dX5_octet_0 : decode cX5_octet 0 = .ok (.aload_n 0, 1) := by decide +kernel
theorem dX5_octet_1 : decode cX5_octet 1 = .ok (.getfield 12, 3) := by decide +kernel
theorem dX5_octet_4 : decode cX5_octet 4 = .ok (.iload_n 1, 1) := by decide +kernel
theorem dX5_octet_5 : decode cX5_octet 5 = .ok (.iload_n 2, 1) := by decide +kernel
theorem dX5_octet_6 : decode cX5_octet 6 = .ok (.invokevirtual 185, 3) := by decide +kernel
theorem dX5_octet_9 : decode cX5_octet 9 = .ok (.ifCond .ne 6, 3) := by decide +kernel
theorem dX5_octet_12 : decode cX5_octet 12 = .ok (.bipush (-2), 2) := by decide +kernel
theorem dX5_octet_14 : decode cX5_octet 14 = .ok (.ireturn, 1) := by decide +kernel
theorem dX5_octet_15 : decode cX5_octet 15 = .ok (.aload_n 0, 1) := by decide +kernel
theorem dX5_octet_16 : decode cX5_octet 16 = .ok (.getfield 12, 3) := by decide +kernel
theorem dX5_octet_19 : decode cX5_octet 19 = .ok (.iload_n 1, 1) := by decide +kernel
theorem dX5_octet_20 : decode cX5_octet 20 = .ok (.iload_n 2, 1) := by decide +kernel
theorem dX5_octet_21 : decode cX5_octet 21 = .ok (.invokevirtual 170, 3) := by decide +kernel
theorem dX5_octet_24 : decode cX5_octet 24 = .ok (.ireturn, 1) := by decide +kernel
theorem dX5_sectorsLeft_0 : decode cX5_sectorsLeft 0 = .ok (.aload_n 0, 1) := by decide +kernel
theorem dX5_sectorsLeft_1 : decode cX5_sectorsLeft 1 = .ok (.getfield 12, 3) := by decide +kernel
theorem dX5_sectorsLeft_4 : decode cX5_sectorsLeft 4 = .ok (.invokevirtual 205, 3) := by decide +kernel
theorem dX5_sectorsLeft_7 : decode cX5_sectorsLeft 7 = .ok (.aload_n 0, 1) := by decide +kernel
theorem dX5_sectorsLeft_8 : decode cX5_sectorsLeft 8 = .ok (.getfield 50, 3) := by decide +kernel
theorem dX5_sectorsLeft_11 : decode cX5_sectorsLeft 11 = .ok (.isub, 1) := by decide +kernel
theorem dX5_sectorsLeft_12 : decode cX5_sectorsLeft 12 = .ok (.ireturn, 1) := by decide +kernel
theorem dX5_told_0 : decode cX5_told 0 = .ok (.iload_n 1, 1) := by decide +kernel
theorem dX5_told_1 : decode cX5_told 1 = .ok (.tableswitch 122 0 9 #[55, 68, 73, 78, 83, 91, 96, 101, 106, 114], 55) := by decide +kernel
theorem dX5_told_56 : decode cX5_told 56 = .ok (.aload_n 0, 1) := by decide +kernel
theorem dX5_told_57 : decode cX5_told 57 = .ok (.getfield 46, 3) := by decide +kernel
theorem dX5_told_60 : decode cX5_told 60 = .ok (.ifCond .eq 7, 3) := by decide +kernel
theorem dX5_told_63 : decode cX5_told 63 = .ok (.iconst 1, 1) := by decide +kernel
theorem dX5_told_64 : decode cX5_told 64 = .ok (.goto 4, 3) := by decide +kernel
theorem dX5_told_67 : decode cX5_told 67 = .ok (.iconst 0, 1) := by decide +kernel
theorem dX5_told_68 : decode cX5_told 68 = .ok (.ireturn, 1) := by decide +kernel
theorem dX5_told_69 : decode cX5_told 69 = .ok (.aload_n 0, 1) := by decide +kernel
theorem dX5_told_70 : decode cX5_told 70 = .ok (.getfield 50, 3) := by decide +kernel
theorem dX5_told_73 : decode cX5_told 73 = .ok (.ireturn, 1) := by decide +kernel
theorem dX5_told_74 : decode cX5_told 74 = .ok (.aload_n 0, 1) := by decide +kernel
theorem dX5_told_75 : decode cX5_told 75 = .ok (.getfield 65, 3) := by decide +kernel
theorem dX5_told_78 : decode cX5_told 78 = .ok (.ireturn, 1) := by decide +kernel
theorem dX5_told_79 : decode cX5_told 79 = .ok (.aload_n 0, 1) := by decide +kernel
theorem dX5_told_80 : decode cX5_told 80 = .ok (.getfield 109, 3) := by decide +kernel
theorem dX5_told_83 : decode cX5_told 83 = .ok (.ireturn, 1) := by decide +kernel
theorem dX5_told_84 : decode cX5_told 84 = .ok (.aload_n 0, 1) := by decide +kernel
theorem dX5_told_85 : decode cX5_told 85 = .ok (.getfield 21, 3) := by decide +kernel
theorem dX5_told_88 : decode cX5_told 88 = .ok (.invokevirtual 125, 3) := by decide +kernel
theorem dX5_told_91 : decode cX5_told 91 = .ok (.ireturn, 1) := by decide +kernel
theorem dX5_told_92 : decode cX5_told 92 = .ok (.aload_n 0, 1) := by decide +kernel
theorem dX5_told_93 : decode cX5_told 93 = .ok (.getfield 144, 3) := by decide +kernel
theorem dX5_told_96 : decode cX5_told 96 = .ok (.ireturn, 1) := by decide +kernel
theorem dX5_told_97 : decode cX5_told 97 = .ok (.aload_n 0, 1) := by decide +kernel
theorem dX5_told_98 : decode cX5_told 98 = .ok (.getfield 199, 3) := by decide +kernel
theorem dX5_told_101 : decode cX5_told 101 = .ok (.ireturn, 1) := by decide +kernel
theorem dX5_told_102 : decode cX5_told 102 = .ok (.aload_n 0, 1) := by decide +kernel
theorem dX5_told_103 : decode cX5_told 103 = .ok (.getfield 54, 3) := by decide +kernel
theorem dX5_told_106 : decode cX5_told 106 = .ok (.ireturn, 1) := by decide +kernel
theorem dX5_told_107 : decode cX5_told 107 = .ok (.aload_n 0, 1) := by decide +kernel
theorem dX5_told_108 : decode cX5_told 108 = .ok (.getfield 12, 3) := by decide +kernel
theorem dX5_told_111 : decode cX5_told 111 = .ok (.invokevirtual 202, 3) := by decide +kernel
theorem dX5_told_114 : decode cX5_told 114 = .ok (.ireturn, 1) := by decide +kernel
theorem dX5_told_115 : decode cX5_told 115 = .ok (.aload_n 0, 1) := by decide +kernel
theorem dX5_told_116 : decode cX5_told 116 = .ok (.getfield 12, 3) := by decide +kernel
theorem dX5_told_119 : decode cX5_told 119 = .ok (.invokevirtual 205, 3) := by decide +kernel
theorem dX5_told_122 : decode cX5_told 122 = .ok (.ireturn, 1) := by decide +kernel
theorem dX5_told_123 : decode cX5_told 123 = .ok (.bipush (-2), 2) := by decide +kernel
theorem dX5_told_125 : decode cX5_told 125 = .ok (.ireturn, 1) := by decide +kernel
theorem dX5_blocksOfRow_0 : decode cX5_blocksOfRow 0 = .ok (.aload_n 0, 1) := by decide +kernel
theorem dX5_blocksOfRow_1 : decode cX5_blocksOfRow 1 = .ok (.iload_n 1, 1) := by decide +kernel
theorem dX5_blocksOfRow_2 : decode cX5_blocksOfRow 2 = .ok (.invokevirtual 150, 3) := by decide +kernel
theorem dX5_blocksOfRow_5 : decode cX5_blocksOfRow 5 = .ok (.invokestatic 77, 3) := by decide +kernel
theorem dX5_blocksOfRow_8 : decode cX5_blocksOfRow 8 = .ok (.ireturn, 1) := by decide +kernel
theorem dX5_draftHead_0 : decode cX5_draftHead 0 = .ok (.aload_n 0, 1) := by decide +kernel
theorem dX5_draftHead_1 : decode cX5_draftHead 1 = .ok (.getfield 28, 3) := by decide +kernel
theorem dX5_draftHead_4 : decode cX5_draftHead 4 = .ok (.iconst 1, 1) := by decide +kernel
theorem dX5_draftHead_5 : decode cX5_draftHead 5 = .ok (.iconst 0, 1) := by decide +kernel
theorem dX5_draftHead_6 : decode cX5_draftHead 6 = .ok (.iconst 0, 1) := by decide +kernel
theorem dX5_draftHead_7 : decode cX5_draftHead 7 = .ok (.iconst 0, 1) := by decide +kernel
theorem dX5_draftHead_8 : decode cX5_draftHead 8 = .ok (.invokevirtual 84, 3) := by decide +kernel
theorem dX5_draftHead_11 : decode cX5_draftHead 11 = .ok (.iconst 0, 1) := by decide +kernel
theorem dX5_draftHead_12 : decode cX5_draftHead 12 = .ok (.istore_n 2, 1) := by decide +kernel
theorem dX5_draftHead_13 : decode cX5_draftHead 13 = .ok (.iload_n 2, 1) := by decide +kernel
theorem dX5_draftHead_14 : decode cX5_draftHead 14 = .ok (.iconst 4, 1) := by decide +kernel
theorem dX5_draftHead_15 : decode cX5_draftHead 15 = .ok (.if_icmp .ge 26, 3) := by decide +kernel
theorem dX5_draftHead_18 : decode cX5_draftHead 18 = .ok (.aload_n 0, 1) := by decide +kernel
theorem dX5_draftHead_19 : decode cX5_draftHead 19 = .ok (.getfield 28, 3) := by decide +kernel
theorem dX5_draftHead_22 : decode cX5_draftHead 22 = .ok (.iload_n 2, 1) := by decide +kernel
theorem dX5_draftHead_23 : decode cX5_draftHead 23 = .ok (.iload_n 1, 1) := by decide +kernel
theorem dX5_draftHead_24 : decode cX5_draftHead 24 = .ok (.bipush 24, 2) := by decide +kernel
theorem dX5_draftHead_26 : decode cX5_draftHead 26 = .ok (.bipush 8, 2) := by decide +kernel
theorem dX5_draftHead_28 : decode cX5_draftHead 28 = .ok (.iload_n 2, 1) := by decide +kernel
theorem dX5_draftHead_29 : decode cX5_draftHead 29 = .ok (.imul, 1) := by decide +kernel
theorem dX5_draftHead_30 : decode cX5_draftHead 30 = .ok (.isub, 1) := by decide +kernel
theorem dX5_draftHead_31 : decode cX5_draftHead 31 = .ok (.iushr, 1) := by decide +kernel
theorem dX5_draftHead_32 : decode cX5_draftHead 32 = .ok (.invokevirtual 88, 3) := by decide +kernel
theorem dX5_draftHead_35 : decode cX5_draftHead 35 = .ok (.iinc 2 1, 3) := by decide +kernel
theorem dX5_draftHead_38 : decode cX5_draftHead 38 = .ok (.goto (-25), 3) := by decide +kernel
theorem dX5_draftHead_41 : decode cX5_draftHead 41 = .ok (.aload_n 0, 1) := by decide +kernel
theorem dX5_draftHead_42 : decode cX5_draftHead 42 = .ok (.getfield 28, 3) := by decide +kernel
theorem dX5_draftHead_45 : decode cX5_draftHead 45 = .ok (.iconst 4, 1) := by decide +kernel
theorem dX5_draftHead_46 : decode cX5_draftHead 46 = .ok (.aload_n 0, 1) := by decide +kernel
theorem dX5_draftHead_47 : decode cX5_draftHead 47 = .ok (.getfield 50, 3) := by decide +kernel
theorem dX5_draftHead_50 : decode cX5_draftHead 50 = .ok (.invokevirtual 88, 3) := by decide +kernel
theorem dX5_draftHead_53 : decode cX5_draftHead 53 = .ok (.aload_n 0, 1) := by decide +kernel
theorem dX5_draftHead_54 : decode cX5_draftHead 54 = .ok (.getfield 28, 3) := by decide +kernel
theorem dX5_draftHead_57 : decode cX5_draftHead 57 = .ok (.iconst 5, 1) := by decide +kernel
theorem dX5_draftHead_58 : decode cX5_draftHead 58 = .ok (.aload_n 0, 1) := by decide +kernel
theorem dX5_draftHead_59 : decode cX5_draftHead 59 = .ok (.getfield 65, 3) := by decide +kernel
theorem dX5_draftHead_62 : decode cX5_draftHead 62 = .ok (.invokevirtual 88, 3) := by decide +kernel
theorem dX5_draftHead_65 : decode cX5_draftHead 65 = .ok (.aload_n 0, 1) := by decide +kernel
theorem dX5_draftHead_66 : decode cX5_draftHead 66 = .ok (.getfield 28, 3) := by decide +kernel
theorem dX5_draftHead_69 : decode cX5_draftHead 69 = .ok (.invokevirtual 231, 3) := by decide +kernel
theorem dX5_draftHead_72 : decode cX5_draftHead 72 = .ok (.return_, 1) := by decide +kernel
theorem dX5_extendLog_0 : decode cX5_extendLog 0 = .ok (.aload_n 0, 1) := by decide +kernel
theorem dX5_extendLog_1 : decode cX5_extendLog 1 = .ok (.getfield 12, 3) := by decide +kernel
theorem dX5_extendLog_4 : decode cX5_extendLog 4 = .ok (.invokevirtual 205, 3) := by decide +kernel
theorem dX5_extendLog_7 : decode cX5_extendLog 7 = .ok (.istore_n 1, 1) := by decide +kernel
theorem dX5_extendLog_8 : decode cX5_extendLog 8 = .ok (.aload_n 0, 1) := by decide +kernel
theorem dX5_extendLog_9 : decode cX5_extendLog 9 = .ok (.getfield 50, 3) := by decide +kernel
theorem dX5_extendLog_12 : decode cX5_extendLog 12 = .ok (.iload_n 1, 1) := by decide +kernel
theorem dX5_extendLog_13 : decode cX5_extendLog 13 = .ok (.if_icmp .ge 31, 3) := by decide +kernel
theorem dX5_extendLog_16 : decode cX5_extendLog 16 = .ok (.aload_n 0, 1) := by decide +kernel
theorem dX5_extendLog_17 : decode cX5_extendLog 17 = .ok (.getfield 12, 3) := by decide +kernel
theorem dX5_extendLog_20 : decode cX5_extendLog 20 = .ok (.aload_n 0, 1) := by decide +kernel
theorem dX5_extendLog_21 : decode cX5_extendLog 21 = .ok (.getfield 50, 3) := by decide +kernel
theorem dX5_extendLog_24 : decode cX5_extendLog 24 = .ok (.invokevirtual 193, 3) := by decide +kernel
theorem dX5_extendLog_27 : decode cX5_extendLog 27 = .ok (.iconst 2, 1) := by decide +kernel
theorem dX5_extendLog_28 : decode cX5_extendLog 28 = .ok (.if_icmp .lt 16, 3) := by decide +kernel
theorem dX5_extendLog_31 : decode cX5_extendLog 31 = .ok (.aload_n 0, 1) := by decide +kernel
theorem dX5_extendLog_32 : decode cX5_extendLog 32 = .ok (.dup, 1) := by decide +kernel
theorem dX5_extendLog_33 : decode cX5_extendLog 33 = .ok (.getfield 50, 3) := by decide +kernel
theorem dX5_extendLog_36 : decode cX5_extendLog 36 = .ok (.iconst 1, 1) := by decide +kernel
theorem dX5_extendLog_37 : decode cX5_extendLog 37 = .ok (.iadd, 1) := by decide +kernel
theorem dX5_extendLog_38 : decode cX5_extendLog 38 = .ok (.putfield 50, 3) := by decide +kernel
theorem dX5_extendLog_41 : decode cX5_extendLog 41 = .ok (.goto (-33), 3) := by decide +kernel
theorem dX5_extendLog_44 : decode cX5_extendLog 44 = .ok (.return_, 1) := by decide +kernel
theorem dX5_findRow_0 : decode cX5_findRow 0 = .ok (.aload_n 0, 1) := by decide +kernel
theorem dX5_findRow_1 : decode cX5_findRow 1 = .ok (.getfield 50, 3) := by decide +kernel
theorem dX5_findRow_4 : decode cX5_findRow 4 = .ok (.iconst 1, 1) := by decide +kernel
theorem dX5_findRow_5 : decode cX5_findRow 5 = .ok (.isub, 1) := by decide +kernel
theorem dX5_findRow_6 : decode cX5_findRow 6 = .ok (.istore_n 2, 1) := by decide +kernel
theorem dX5_findRow_7 : decode cX5_findRow 7 = .ok (.iload_n 2, 1) := by decide +kernel
theorem dX5_findRow_8 : decode cX5_findRow 8 = .ok (.iconst 2, 1) := by decide +kernel
theorem dX5_findRow_9 : decode cX5_findRow 9 = .ok (.if_icmp .lt 46, 3) := by decide +kernel
theorem dX5_findRow_12 : decode cX5_findRow 12 = .ok (.aload_n 0, 1) := by decide +kernel
theorem dX5_findRow_13 : decode cX5_findRow 13 = .ok (.getfield 12, 3) := by decide +kernel
theorem dX5_findRow_16 : decode cX5_findRow 16 = .ok (.iload_n 2, 1) := by decide +kernel
theorem dX5_findRow_17 : decode cX5_findRow 17 = .ok (.invokevirtual 193, 3) := by decide +kernel
theorem dX5_findRow_20 : decode cX5_findRow 20 = .ok (.iconst 3, 1) := by decide +kernel
theorem dX5_findRow_21 : decode cX5_findRow 21 = .ok (.if_icmp .ne 28, 3) := by decide +kernel
theorem dX5_findRow_24 : decode cX5_findRow 24 = .ok (.aload_n 0, 1) := by decide +kernel
theorem dX5_findRow_25 : decode cX5_findRow 25 = .ok (.getfield 12, 3) := by decide +kernel
theorem dX5_findRow_28 : decode cX5_findRow 28 = .ok (.iload_n 2, 1) := by decide +kernel
theorem dX5_findRow_29 : decode cX5_findRow 29 = .ok (.iconst 2, 1) := by decide +kernel
theorem dX5_findRow_30 : decode cX5_findRow 30 = .ok (.invokevirtual 170, 3) := by decide +kernel
theorem dX5_findRow_33 : decode cX5_findRow 33 = .ok (.iload_n 1, 1) := by decide +kernel
theorem dX5_findRow_34 : decode cX5_findRow 34 = .ok (.if_icmp .ne 15, 3) := by decide +kernel
theorem dX5_findRow_37 : decode cX5_findRow 37 = .ok (.aload_n 0, 1) := by decide +kernel
theorem dX5_findRow_38 : decode cX5_findRow 38 = .ok (.iload_n 2, 1) := by decide +kernel
theorem dX5_findRow_39 : decode cX5_findRow 39 = .ok (.invokevirtual 150, 3) := by decide +kernel
theorem dX5_findRow_42 : decode cX5_findRow 42 = .ok (.bipush 96, 2) := by decide +kernel
theorem dX5_findRow_44 : decode cX5_findRow 44 = .ok (.if_icmp .gt 5, 3) := by decide +kernel
theorem dX5_findRow_47 : decode cX5_findRow 47 = .ok (.iload_n 2, 1) := by decide +kernel
theorem dX5_findRow_48 : decode cX5_findRow 48 = .ok (.ireturn, 1) := by decide +kernel
theorem dX5_findRow_49 : decode cX5_findRow 49 = .ok (.iinc 2 (-1), 3) := by decide +kernel
theorem dX5_findRow_52 : decode cX5_findRow 52 = .ok (.goto (-45), 3) := by decide +kernel
theorem dX5_findRow_55 : decode cX5_findRow 55 = .ok (.iconst (-1), 1) := by decide +kernel
theorem dX5_findRow_56 : decode cX5_findRow 56 = .ok (.ireturn, 1) := by decide +kernel
theorem dX5_findSymbol_0 : decode cX5_findSymbol 0 = .ok (.aload_n 0, 1) := by decide +kernel
theorem dX5_findSymbol_1 : decode cX5_findSymbol 1 = .ok (.getfield 50, 3) := by decide +kernel
theorem dX5_findSymbol_4 : decode cX5_findSymbol 4 = .ok (.iconst 1, 1) := by decide +kernel
theorem dX5_findSymbol_5 : decode cX5_findSymbol 5 = .ok (.isub, 1) := by decide +kernel
theorem dX5_findSymbol_6 : decode cX5_findSymbol 6 = .ok (.istore_n 3, 1) := by decide +kernel
theorem dX5_findSymbol_7 : decode cX5_findSymbol 7 = .ok (.iload_n 3, 1) := by decide +kernel
theorem dX5_findSymbol_8 : decode cX5_findSymbol 8 = .ok (.iconst 2, 1) := by decide +kernel
theorem dX5_findSymbol_9 : decode cX5_findSymbol 9 = .ok (.if_icmp .lt 49, 3) := by decide +kernel
theorem dX5_findSymbol_12 : decode cX5_findSymbol 12 = .ok (.aload_n 0, 1) := by decide +kernel
theorem dX5_findSymbol_13 : decode cX5_findSymbol 13 = .ok (.getfield 12, 3) := by decide +kernel
theorem dX5_findSymbol_16 : decode cX5_findSymbol 16 = .ok (.iload_n 3, 1) := by decide +kernel
theorem dX5_findSymbol_17 : decode cX5_findSymbol 17 = .ok (.invokevirtual 193, 3) := by decide +kernel
theorem dX5_findSymbol_20 : decode cX5_findSymbol 20 = .ok (.iconst 4, 1) := by decide +kernel
theorem dX5_findSymbol_21 : decode cX5_findSymbol 21 = .ok (.if_icmp .ne 31, 3) := by decide +kernel
theorem dX5_findSymbol_24 : decode cX5_findSymbol 24 = .ok (.aload_n 0, 1) := by decide +kernel
theorem dX5_findSymbol_25 : decode cX5_findSymbol 25 = .ok (.getfield 12, 3) := by decide +kernel
theorem dX5_findSymbol_28 : decode cX5_findSymbol 28 = .ok (.iload_n 3, 1) := by decide +kernel
theorem dX5_findSymbol_29 : decode cX5_findSymbol 29 = .ok (.iconst 1, 1) := by decide +kernel
theorem dX5_findSymbol_30 : decode cX5_findSymbol 30 = .ok (.invokevirtual 170, 3) := by decide +kernel
theorem dX5_findSymbol_33 : decode cX5_findSymbol 33 = .ok (.iload_n 1, 1) := by decide +kernel
theorem dX5_findSymbol_34 : decode cX5_findSymbol 34 = .ok (.if_icmp .ne 18, 3) := by decide +kernel
theorem dX5_findSymbol_37 : decode cX5_findSymbol 37 = .ok (.aload_n 0, 1) := by decide +kernel
theorem dX5_findSymbol_38 : decode cX5_findSymbol 38 = .ok (.getfield 12, 3) := by decide +kernel
theorem dX5_findSymbol_41 : decode cX5_findSymbol 41 = .ok (.iload_n 3, 1) := by decide +kernel
theorem dX5_findSymbol_42 : decode cX5_findSymbol 42 = .ok (.iconst 2, 1) := by decide +kernel
theorem dX5_findSymbol_43 : decode cX5_findSymbol 43 = .ok (.invokevirtual 170, 3) := by decide +kernel
theorem dX5_findSymbol_46 : decode cX5_findSymbol 46 = .ok (.iload_n 2, 1) := by decide +kernel
theorem dX5_findSymbol_47 : decode cX5_findSymbol 47 = .ok (.if_icmp .ne 5, 3) := by decide +kernel
theorem dX5_findSymbol_50 : decode cX5_findSymbol 50 = .ok (.iload_n 3, 1) := by decide +kernel
theorem dX5_findSymbol_51 : decode cX5_findSymbol 51 = .ok (.ireturn, 1) := by decide +kernel
theorem dX5_findSymbol_52 : decode cX5_findSymbol 52 = .ok (.iinc 3 (-1), 3) := by decide +kernel
theorem dX5_findSymbol_55 : decode cX5_findSymbol 55 = .ok (.goto (-48), 3) := by decide +kernel
theorem dX5_findSymbol_58 : decode cX5_findSymbol 58 = .ok (.iconst (-1), 1) := by decide +kernel
theorem dX5_findSymbol_59 : decode cX5_findSymbol 59 = .ok (.ireturn, 1) := by decide +kernel
theorem dX5_generationIn_0 : decode cX5_generationIn 0 = .ok (.iconst 0, 1) := by decide +kernel
theorem dX5_generationIn_1 : decode cX5_generationIn 1 = .ok (.istore_n 2, 1) := by decide +kernel
theorem dX5_generationIn_2 : decode cX5_generationIn 2 = .ok (.iconst 0, 1) := by decide +kernel
theorem dX5_generationIn_3 : decode cX5_generationIn 3 = .ok (.istore_n 3, 1) := by decide +kernel
theorem dX5_generationIn_4 : decode cX5_generationIn 4 = .ok (.iload_n 3, 1) := by decide +kernel
theorem dX5_generationIn_5 : decode cX5_generationIn 5 = .ok (.iconst 4, 1) := by decide +kernel
theorem dX5_generationIn_6 : decode cX5_generationIn 6 = .ok (.if_icmp .ge 24, 3) := by decide +kernel
theorem dX5_generationIn_9 : decode cX5_generationIn 9 = .ok (.iload_n 2, 1) := by decide +kernel
theorem dX5_generationIn_10 : decode cX5_generationIn 10 = .ok (.bipush 8, 2) := by decide +kernel
theorem dX5_generationIn_12 : decode cX5_generationIn 12 = .ok (.ishl, 1) := by decide +kernel
theorem dX5_generationIn_13 : decode cX5_generationIn 13 = .ok (.aload_n 0, 1) := by decide +kernel
theorem dX5_generationIn_14 : decode cX5_generationIn 14 = .ok (.getfield 12, 3) := by decide +kernel
theorem dX5_generationIn_17 : decode cX5_generationIn 17 = .ok (.iload_n 1, 1) := by decide +kernel
theorem dX5_generationIn_18 : decode cX5_generationIn 18 = .ok (.iload_n 3, 1) := by decide +kernel
theorem dX5_generationIn_19 : decode cX5_generationIn 19 = .ok (.invokevirtual 160, 3) := by decide +kernel
theorem dX5_generationIn_22 : decode cX5_generationIn 22 = .ok (.ior, 1) := by decide +kernel
theorem dX5_generationIn_23 : decode cX5_generationIn 23 = .ok (.istore_n 2, 1) := by decide +kernel
theorem dX5_generationIn_24 : decode cX5_generationIn 24 = .ok (.iinc 3 1, 3) := by decide +kernel
theorem dX5_generationIn_27 : decode cX5_generationIn 27 = .ok (.goto (-23), 3) := by decide +kernel
theorem dX5_generationIn_30 : decode cX5_generationIn 30 = .ok (.iload_n 2, 1) := by decide +kernel
theorem dX5_generationIn_31 : decode cX5_generationIn 31 = .ok (.ireturn, 1) := by decide +kernel
theorem dX5_isBlock_0 : decode cX5_isBlock 0 = .ok (.aload_n 0, 1) := by decide +kernel
theorem dX5_isBlock_1 : decode cX5_isBlock 1 = .ok (.iload_n 1, 1) := by decide +kernel
theorem dX5_isBlock_2 : decode cX5_isBlock 2 = .ok (.invokevirtual 208, 3) := by decide +kernel
theorem dX5_isBlock_5 : decode cX5_isBlock 5 = .ok (.ifCond .eq 19, 3) := by decide +kernel
theorem dX5_isBlock_8 : decode cX5_isBlock 8 = .ok (.aload_n 0, 1) := by decide +kernel
theorem dX5_isBlock_9 : decode cX5_isBlock 9 = .ok (.getfield 12, 3) := by decide +kernel
theorem dX5_isBlock_12 : decode cX5_isBlock 12 = .ok (.iload_n 1, 1) := by decide +kernel
theorem dX5_isBlock_13 : decode cX5_isBlock 13 = .ok (.invokevirtual 193, 3) := by decide +kernel
theorem dX5_isBlock_16 : decode cX5_isBlock 16 = .ok (.iconst 2, 1) := by decide +kernel
theorem dX5_isBlock_17 : decode cX5_isBlock 17 = .ok (.if_icmp .ne 7, 3) := by decide +kernel
theorem dX5_isBlock_20 : decode cX5_isBlock 20 = .ok (.iconst 1, 1) := by decide +kernel
theorem dX5_isBlock_21 : decode cX5_isBlock 21 = .ok (.goto 4, 3) := by decide +kernel
theorem dX5_isBlock_24 : decode cX5_isBlock 24 = .ok (.iconst 0, 1) := by decide +kernel
theorem dX5_isBlock_25 : decode cX5_isBlock 25 = .ok (.ireturn, 1) := by decide +kernel
theorem dX5_isHead_0 : decode cX5_isHead 0 = .ok (.aload_n 0, 1) := by decide +kernel
theorem dX5_isHead_1 : decode cX5_isHead 1 = .ok (.getfield 12, 3) := by decide +kernel
theorem dX5_isHead_4 : decode cX5_isHead 4 = .ok (.iload_n 1, 1) := by decide +kernel
theorem dX5_isHead_5 : decode cX5_isHead 5 = .ok (.iconst 4, 1) := by decide +kernel
theorem dX5_isHead_6 : decode cX5_isHead 6 = .ok (.invokevirtual 160, 3) := by decide +kernel
theorem dX5_isHead_9 : decode cX5_isHead 9 = .ok (.istore_n 2, 1) := by decide +kernel
theorem dX5_isHead_10 : decode cX5_isHead 10 = .ok (.aload_n 0, 1) := by decide +kernel
theorem dX5_isHead_11 : decode cX5_isHead 11 = .ok (.getfield 12, 3) := by decide +kernel
theorem dX5_isHead_14 : decode cX5_isHead 14 = .ok (.iload_n 1, 1) := by decide +kernel
theorem dX5_isHead_15 : decode cX5_isHead 15 = .ok (.invokevirtual 193, 3) := by decide +kernel
theorem dX5_isHead_18 : decode cX5_isHead 18 = .ok (.iconst 1, 1) := by decide +kernel
theorem dX5_isHead_19 : decode cX5_isHead 19 = .ok (.if_icmp .ne 37, 3) := by decide +kernel
theorem dX5_isHead_22 : decode cX5_isHead 22 = .ok (.iload_n 2, 1) := by decide +kernel
theorem dX5_isHead_23 : decode cX5_isHead 23 = .ok (.iconst 2, 1) := by decide +kernel
theorem dX5_isHead_24 : decode cX5_isHead 24 = .ok (.if_icmp .lt 32, 3) := by decide +kernel
theorem dX5_isHead_27 : decode cX5_isHead 27 = .ok (.iload_n 2, 1) := by decide +kernel
theorem dX5_isHead_28 : decode cX5_isHead 28 = .ok (.aload_n 0, 1) := by decide +kernel
theorem dX5_isHead_29 : decode cX5_isHead 29 = .ok (.getfield 12, 3) := by decide +kernel
theorem dX5_isHead_32 : decode cX5_isHead 32 = .ok (.invokevirtual 205, 3) := by decide +kernel
theorem dX5_isHead_35 : decode cX5_isHead 35 = .ok (.if_icmp .gt 21, 3) := by decide +kernel
theorem dX5_isHead_38 : decode cX5_isHead 38 = .ok (.aload_n 0, 1) := by decide +kernel
theorem dX5_isHead_39 : decode cX5_isHead 39 = .ok (.getfield 12, 3) := by decide +kernel
theorem dX5_isHead_42 : decode cX5_isHead 42 = .ok (.iload_n 1, 1) := by decide +kernel
theorem dX5_isHead_43 : decode cX5_isHead 43 = .ok (.iconst 5, 1) := by decide +kernel
theorem dX5_isHead_44 : decode cX5_isHead 44 = .ok (.invokevirtual 160, 3) := by decide +kernel
theorem dX5_isHead_47 : decode cX5_isHead 47 = .ok (.bipush 60, 2) := by decide +kernel
theorem dX5_isHead_49 : decode cX5_isHead 49 = .ok (.if_icmp .gt 7, 3) := by decide +kernel
theorem dX5_isHead_52 : decode cX5_isHead 52 = .ok (.iconst 1, 1) := by decide +kernel
theorem dX5_isHead_53 : decode cX5_isHead 53 = .ok (.goto 4, 3) := by decide +kernel
theorem dX5_isHead_56 : decode cX5_isHead 56 = .ok (.iconst 0, 1) := by decide +kernel
theorem dX5_isHead_57 : decode cX5_isHead 57 = .ok (.ireturn, 1) := by decide +kernel
theorem dX5_lose_0 : decode cX5_lose 0 = .ok (.aload_n 0, 1) := by decide +kernel
theorem dX5_lose_1 : decode cX5_lose 1 = .ok (.getfield 12, 3) := by decide +kernel
theorem dX5_lose_4 : decode cX5_lose 4 = .ok (.iload_n 1, 1) := by decide +kernel
theorem dX5_lose_5 : decode cX5_lose 5 = .ok (.invokevirtual 176, 3) := by decide +kernel
theorem dX5_lose_8 : decode cX5_lose 8 = .ok (.ifCond .ne 6, 3) := by decide +kernel
theorem dX5_lose_11 : decode cX5_lose 11 = .ok (.bipush (-2), 2) := by decide +kernel
theorem dX5_lose_13 : decode cX5_lose 13 = .ok (.ireturn, 1) := by decide +kernel
theorem dX5_lose_14 : decode cX5_lose 14 = .ok (.aload_n 0, 1) := by decide +kernel
theorem dX5_lose_15 : decode cX5_lose 15 = .ok (.getfield 12, 3) := by decide +kernel
theorem dX5_lose_18 : decode cX5_lose 18 = .ok (.iload_n 1, 1) := by decide +kernel
theorem dX5_lose_19 : decode cX5_lose 19 = .ok (.invokevirtual 179, 3) := by decide +kernel
theorem dX5_lose_22 : decode cX5_lose 22 = .ok (.ifCond .eq 5, 3) := by decide +kernel
theorem dX5_lose_25 : decode cX5_lose 25 = .ok (.iconst 0, 1) := by decide +kernel
theorem dX5_lose_26 : decode cX5_lose 26 = .ok (.ireturn, 1) := by decide +kernel
theorem dX5_lose_27 : decode cX5_lose 27 = .ok (.aload_n 0, 1) := by decide +kernel
theorem dX5_lose_28 : decode cX5_lose 28 = .ok (.getfield 12, 3) := by decide +kernel
theorem dX5_lose_31 : decode cX5_lose 31 = .ok (.iload_n 1, 1) := by decide +kernel
theorem dX5_lose_32 : decode cX5_lose 32 = .ok (.invokevirtual 182, 3) := by decide +kernel
theorem dX5_lose_35 : decode cX5_lose 35 = .ok (.iconst 1, 1) := by decide +kernel
theorem dX5_lose_36 : decode cX5_lose 36 = .ok (.ireturn, 1) := by decide +kernel
theorem dX5_open_0 : decode cX5_open 0 = .ok (.iload_n 1, 1) := by decide +kernel
theorem dX5_open_1 : decode cX5_open 1 = .ok (.ifCond .lt 9, 3) := by decide +kernel
theorem dX5_open_4 : decode cX5_open 4 = .ok (.iload_n 1, 1) := by decide +kernel
theorem dX5_open_5 : decode cX5_open 5 = .ok (.bipush 9, 2) := by decide +kernel
theorem dX5_open_7 : decode cX5_open 7 = .ok (.if_icmp .le 6, 3) := by decide +kernel
theorem dX5_open_10 : decode cX5_open 10 = .ok (.bipush (-2), 2) := by decide +kernel
theorem dX5_open_12 : decode cX5_open 12 = .ok (.ireturn, 1) := by decide +kernel
theorem dX5_open_13 : decode cX5_open 13 = .ok (.aload_n 0, 1) := by decide +kernel
theorem dX5_open_14 : decode cX5_open 14 = .ok (.getfield 46, 3) := by decide +kernel
theorem dX5_open_17 : decode cX5_open 17 = .ok (.ifCond .eq 10, 3) := by decide +kernel
theorem dX5_open_20 : decode cX5_open 20 = .ok (.aload_n 0, 1) := by decide +kernel
theorem dX5_open_21 : decode cX5_open 21 = .ok (.invokevirtual 57, 3) := by decide +kernel
theorem dX5_open_24 : decode cX5_open 24 = .ok (.ifCond .eq 6, 3) := by decide +kernel
theorem dX5_open_27 : decode cX5_open 27 = .ok (.bipush (-3), 2) := by decide +kernel
theorem dX5_open_29 : decode cX5_open 29 = .ok (.ireturn, 1) := by decide +kernel
theorem dX5_open_30 : decode cX5_open 30 = .ok (.aload_n 0, 1) := by decide +kernel
theorem dX5_open_31 : decode cX5_open 31 = .ok (.invokevirtual 61, 3) := by decide +kernel
theorem dX5_open_34 : decode cX5_open 34 = .ok (.iconst 5, 1) := by decide +kernel
theorem dX5_open_35 : decode cX5_open 35 = .ok (.if_icmp .lt 12, 3) := by decide +kernel
theorem dX5_open_38 : decode cX5_open 38 = .ok (.aload_n 0, 1) := by decide +kernel
theorem dX5_open_39 : decode cX5_open 39 = .ok (.getfield 65, 3) := by decide +kernel
theorem dX5_open_42 : decode cX5_open 42 = .ok (.bipush 60, 2) := by decide +kernel
theorem dX5_open_44 : decode cX5_open 44 = .ok (.if_icmp .lt 6, 3) := by decide +kernel
theorem dX5_open_47 : decode cX5_open 47 = .ok (.bipush (-4), 2) := by decide +kernel
theorem dX5_open_49 : decode cX5_open 49 = .ok (.ireturn, 1) := by decide +kernel
theorem dX5_open_50 : decode cX5_open 50 = .ok (.aload_n 0, 1) := by decide +kernel
theorem dX5_open_51 : decode cX5_open 51 = .ok (.getfield 39, 3) := by decide +kernel
theorem dX5_open_54 : decode cX5_open 54 = .ok (.iconst 0, 1) := by decide +kernel
theorem dX5_open_55 : decode cX5_open 55 = .ok (.invokestatic 68, 3) := by decide +kernel
theorem dX5_open_58 : decode cX5_open 58 = .ok (.aload_n 0, 1) := by decide +kernel
theorem dX5_open_59 : decode cX5_open 59 = .ok (.iload_n 1, 1) := by decide +kernel
theorem dX5_open_60 : decode cX5_open 60 = .ok (.putfield 74, 3) := by decide +kernel
theorem dX5_open_63 : decode cX5_open 63 = .ok (.aload_n 0, 1) := by decide +kernel
theorem dX5_open_64 : decode cX5_open 64 = .ok (.iconst 0, 1) := by decide +kernel
theorem dX5_open_65 : decode cX5_open 65 = .ok (.putfield 54, 3) := by decide +kernel
theorem dX5_open_68 : decode cX5_open 68 = .ok (.aload_n 0, 1) := by decide +kernel
theorem dX5_open_69 : decode cX5_open 69 = .ok (.getfield 65, 3) := by decide +kernel
theorem dX5_open_72 : decode cX5_open 72 = .ok (.ireturn, 1) := by decide +kernel
theorem dX5_whole_0 : decode cX5_whole 0 = .ok (.aload_n 0, 1) := by decide +kernel
theorem dX5_whole_1 : decode cX5_whole 1 = .ok (.getfield 12, 3) := by decide +kernel
theorem dX5_whole_4 : decode cX5_whole 4 = .ok (.iload_n 1, 1) := by decide +kernel
theorem dX5_whole_5 : decode cX5_whole 5 = .ok (.invokevirtual 176, 3) := by decide +kernel
theorem dX5_whole_8 : decode cX5_whole 8 = .ok (.ifCond .ne 6, 3) := by decide +kernel
theorem dX5_whole_11 : decode cX5_whole 11 = .ok (.bipush (-2), 2) := by decide +kernel
theorem dX5_whole_13 : decode cX5_whole 13 = .ok (.ireturn, 1) := by decide +kernel
theorem dX5_whole_14 : decode cX5_whole 14 = .ok (.aload_n 0, 1) := by decide +kernel
theorem dX5_whole_15 : decode cX5_whole 15 = .ok (.getfield 12, 3) := by decide +kernel
theorem dX5_whole_18 : decode cX5_whole 18 = .ok (.iload_n 1, 1) := by decide +kernel
theorem dX5_whole_19 : decode cX5_whole 19 = .ok (.invokevirtual 193, 3) := by decide +kernel
theorem dX5_whole_22 : decode cX5_whole 22 = .ok (.ireturn, 1) := by decide +kernel
theorem dX5_at_0 : decode cX5_at 0 = .ok (.aload_n 0, 1) := by decide +kernel
theorem dX5_at_1 : decode cX5_at 1 = .ok (.iload_n 1, 1) := by decide +kernel
theorem dX5_at_2 : decode cX5_at 2 = .ok (.invokevirtual 95, 3) := by decide +kernel
theorem dX5_at_5 : decode cX5_at 5 = .ok (.ifCond .ne 6, 3) := by decide +kernel
theorem dX5_at_8 : decode cX5_at 8 = .ok (.bipush (-2), 2) := by decide +kernel
theorem dX5_at_10 : decode cX5_at 10 = .ok (.ireturn, 1) := by decide +kernel
theorem dX5_at_11 : decode cX5_at 11 = .ok (.aload_n 0, 1) := by decide +kernel
theorem dX5_at_12 : decode cX5_at 12 = .ok (.getfield 46, 3) := by decide +kernel
theorem dX5_at_15 : decode cX5_at 15 = .ok (.ifCond .eq 11, 3) := by decide +kernel
theorem dX5_at_18 : decode cX5_at 18 = .ok (.aload_n 0, 1) := by decide +kernel
theorem dX5_at_19 : decode cX5_at 19 = .ok (.iload_n 1, 1) := by decide +kernel
theorem dX5_at_20 : decode cX5_at 20 = .ok (.invokevirtual 99, 3) := by decide +kernel
theorem dX5_at_23 : decode cX5_at 23 = .ok (.goto 4, 3) := by decide +kernel
theorem dX5_at_26 : decode cX5_at 26 = .ok (.iconst (-1), 1) := by decide +kernel
theorem dX5_at_27 : decode cX5_at 27 = .ok (.istore_n 3, 1) := by decide +kernel
theorem dX5_at_28 : decode cX5_at 28 = .ok (.iload_n 3, 1) := by decide +kernel
theorem dX5_at_29 : decode cX5_at 29 = .ok (.iconst (-1), 1) := by decide +kernel
theorem dX5_at_30 : decode cX5_at 30 = .ok (.if_icmp .ne 6, 3) := by decide +kernel
theorem dX5_at_33 : decode cX5_at 33 = .ok (.bipush (-3), 2) := by decide +kernel
theorem dX5_at_35 : decode cX5_at 35 = .ok (.ireturn, 1) := by decide +kernel
theorem dX5_at_36 : decode cX5_at 36 = .ok (.iload_n 2, 1) := by decide +kernel
theorem dX5_at_37 : decode cX5_at 37 = .ok (.ifCond .lt 12, 3) := by decide +kernel
theorem dX5_at_40 : decode cX5_at 40 = .ok (.iload_n 2, 1) := by decide +kernel
theorem dX5_at_41 : decode cX5_at 41 = .ok (.aload_n 0, 1) := by decide +kernel
theorem dX5_at_42 : decode cX5_at 42 = .ok (.iload_n 3, 1) := by decide +kernel
theorem dX5_at_43 : decode cX5_at 43 = .ok (.invokevirtual 150, 3) := by decide +kernel
theorem dX5_at_46 : decode cX5_at 46 = .ok (.if_icmp .lt 13, 3) := by decide +kernel
theorem dX5_at_49 : decode cX5_at 49 = .ok (.new 153, 3) := by decide +kernel
theorem dX5_at_52 : decode cX5_at 52 = .ok (.dup, 1) := by decide +kernel
theorem dX5_at_53 : decode cX5_at 53 = .ok (.ldc 155, 2) := by decide +kernel
theorem dX5_at_55 : decode cX5_at 55 = .ok (.invokespecial 157, 3) := by decide +kernel
theorem dX5_at_58 : decode cX5_at 58 = .ok (.athrow, 1) := by decide +kernel
theorem dX5_at_59 : decode cX5_at 59 = .ok (.aload_n 0, 1) := by decide +kernel
theorem dX5_at_60 : decode cX5_at 60 = .ok (.getfield 12, 3) := by decide +kernel
theorem dX5_at_63 : decode cX5_at 63 = .ok (.iload_n 3, 1) := by decide +kernel
theorem dX5_at_64 : decode cX5_at 64 = .ok (.iload_n 2, 1) := by decide +kernel
theorem dX5_at_65 : decode cX5_at 65 = .ok (.bipush 24, 2) := by decide +kernel
theorem dX5_at_67 : decode cX5_at 67 = .ok (.idiv, 1) := by decide +kernel
theorem dX5_at_68 : decode cX5_at 68 = .ok (.invokevirtual 160, 3) := by decide +kernel
theorem dX5_at_71 : decode cX5_at 71 = .ok (.istore 4, 2) := by decide +kernel
theorem dX5_at_73 : decode cX5_at 73 = .ok (.aload_n 0, 1) := by decide +kernel
theorem dX5_at_74 : decode cX5_at 74 = .ok (.iload 4, 2) := by decide +kernel
theorem dX5_at_76 : decode cX5_at 76 = .ok (.invokevirtual 164, 3) := by decide +kernel
theorem dX5_at_79 : decode cX5_at 79 = .ok (.ifCond .eq 19, 3) := by decide +kernel
theorem dX5_at_82 : decode cX5_at 82 = .ok (.aload_n 0, 1) := by decide +kernel
theorem dX5_at_83 : decode cX5_at 83 = .ok (.getfield 12, 3) := by decide +kernel
theorem dX5_at_86 : decode cX5_at 86 = .ok (.iload 4, 2) := by decide +kernel
theorem dX5_at_88 : decode cX5_at 88 = .ok (.iload_n 2, 1) := by decide +kernel
theorem dX5_at_89 : decode cX5_at 89 = .ok (.bipush 24, 2) := by decide +kernel
theorem dX5_at_91 : decode cX5_at 91 = .ok (.irem, 1) := by decide +kernel
theorem dX5_at_92 : decode cX5_at 92 = .ok (.invokevirtual 160, 3) := by decide +kernel
theorem dX5_at_95 : decode cX5_at 95 = .ok (.goto 5, 3) := by decide +kernel
theorem dX5_at_98 : decode cX5_at 98 = .ok (.bipush (-5), 2) := by decide +kernel
theorem dX5_at_100 : decode cX5_at 100 = .ok (.ireturn, 1) := by decide +kernel
theorem dX5_chooseHead_0 : decode cX5_chooseHead 0 = .ok (.aload_n 0, 1) := by decide +kernel
theorem dX5_chooseHead_1 : decode cX5_chooseHead 1 = .ok (.iconst 0, 1) := by decide +kernel
theorem dX5_chooseHead_2 : decode cX5_chooseHead 2 = .ok (.invokevirtual 238, 3) := by decide +kernel
theorem dX5_chooseHead_5 : decode cX5_chooseHead 5 = .ok (.ifCond .ne 17, 3) := by decide +kernel
theorem dX5_chooseHead_8 : decode cX5_chooseHead 8 = .ok (.aload_n 0, 1) := by decide +kernel
theorem dX5_chooseHead_9 : decode cX5_chooseHead 9 = .ok (.iconst 1, 1) := by decide +kernel
theorem dX5_chooseHead_10 : decode cX5_chooseHead 10 = .ok (.invokevirtual 238, 3) := by decide +kernel
theorem dX5_chooseHead_13 : decode cX5_chooseHead 13 = .ok (.ifCond .eq 7, 3) := by decide +kernel
theorem dX5_chooseHead_16 : decode cX5_chooseHead 16 = .ok (.iconst 1, 1) := by decide +kernel
theorem dX5_chooseHead_17 : decode cX5_chooseHead 17 = .ok (.goto 4, 3) := by decide +kernel
theorem dX5_chooseHead_20 : decode cX5_chooseHead 20 = .ok (.iconst (-1), 1) := by decide +kernel
theorem dX5_chooseHead_21 : decode cX5_chooseHead 21 = .ok (.ireturn, 1) := by decide +kernel
theorem dX5_chooseHead_22 : decode cX5_chooseHead 22 = .ok (.aload_n 0, 1) := by decide +kernel
theorem dX5_chooseHead_23 : decode cX5_chooseHead 23 = .ok (.iconst 1, 1) := by decide +kernel
theorem dX5_chooseHead_24 : decode cX5_chooseHead 24 = .ok (.invokevirtual 238, 3) := by decide +kernel
theorem dX5_chooseHead_27 : decode cX5_chooseHead 27 = .ok (.ifCond .eq 20, 3) := by decide +kernel
theorem dX5_chooseHead_30 : decode cX5_chooseHead 30 = .ok (.aload_n 0, 1) := by decide +kernel
theorem dX5_chooseHead_31 : decode cX5_chooseHead 31 = .ok (.iconst 1, 1) := by decide +kernel
theorem dX5_chooseHead_32 : decode cX5_chooseHead 32 = .ok (.invokevirtual 241, 3) := by decide +kernel
theorem dX5_chooseHead_35 : decode cX5_chooseHead 35 = .ok (.aload_n 0, 1) := by decide +kernel
theorem dX5_chooseHead_36 : decode cX5_chooseHead 36 = .ok (.iconst 0, 1) := by decide +kernel
theorem dX5_chooseHead_37 : decode cX5_chooseHead 37 = .ok (.invokevirtual 241, 3) := by decide +kernel
theorem dX5_chooseHead_40 : decode cX5_chooseHead 40 = .ok (.if_icmp .le 7, 3) := by decide +kernel
theorem dX5_chooseHead_43 : decode cX5_chooseHead 43 = .ok (.iconst 1, 1) := by decide +kernel
theorem dX5_chooseHead_44 : decode cX5_chooseHead 44 = .ok (.goto 4, 3) := by decide +kernel
theorem dX5_chooseHead_47 : decode cX5_chooseHead 47 = .ok (.iconst 0, 1) := by decide +kernel
theorem dX5_chooseHead_48 : decode cX5_chooseHead 48 = .ok (.ireturn, 1) := by decide +kernel
theorem dX5_collectGaps_0 : decode cX5_collectGaps 0 = .ok (.aload_n 0, 1) := by decide +kernel
theorem dX5_collectGaps_1 : decode cX5_collectGaps 1 = .ok (.getfield 35, 3) := by decide +kernel
theorem dX5_collectGaps_4 : decode cX5_collectGaps 4 = .ok (.invokevirtual 264, 3) := by decide +kernel
theorem dX5_collectGaps_7 : decode cX5_collectGaps 7 = .ok (.iconst 1, 1) := by decide +kernel
theorem dX5_collectGaps_8 : decode cX5_collectGaps 8 = .ok (.istore_n 2, 1) := by decide +kernel
theorem dX5_collectGaps_9 : decode cX5_collectGaps 9 = .ok (.aload_n 0, 1) := by decide +kernel
theorem dX5_collectGaps_10 : decode cX5_collectGaps 10 = .ok (.iload_n 1, 1) := by decide +kernel
theorem dX5_collectGaps_11 : decode cX5_collectGaps 11 = .ok (.invokevirtual 167, 3) := by decide +kernel
theorem dX5_collectGaps_14 : decode cX5_collectGaps 14 = .ok (.istore_n 3, 1) := by decide +kernel
theorem dX5_collectGaps_15 : decode cX5_collectGaps 15 = .ok (.iconst 0, 1) := by decide +kernel
theorem dX5_collectGaps_16 : decode cX5_collectGaps 16 = .ok (.istore 4, 2) := by decide +kernel
theorem dX5_collectGaps_18 : decode cX5_collectGaps 18 = .ok (.iload 4, 2) := by decide +kernel
theorem dX5_collectGaps_20 : decode cX5_collectGaps 20 = .ok (.iload_n 3, 1) := by decide +kernel
theorem dX5_collectGaps_21 : decode cX5_collectGaps 21 = .ok (.if_icmp .ge 56, 3) := by decide +kernel
theorem dX5_collectGaps_24 : decode cX5_collectGaps 24 = .ok (.aload_n 0, 1) := by decide +kernel
theorem dX5_collectGaps_25 : decode cX5_collectGaps 25 = .ok (.getfield 12, 3) := by decide +kernel
theorem dX5_collectGaps_28 : decode cX5_collectGaps 28 = .ok (.iload_n 1, 1) := by decide +kernel
theorem dX5_collectGaps_29 : decode cX5_collectGaps 29 = .ok (.iload 4, 2) := by decide +kernel
theorem dX5_collectGaps_31 : decode cX5_collectGaps 31 = .ok (.invokevirtual 160, 3) := by decide +kernel
theorem dX5_collectGaps_34 : decode cX5_collectGaps 34 = .ok (.istore 5, 2) := by decide +kernel
theorem dX5_collectGaps_36 : decode cX5_collectGaps 36 = .ok (.aload_n 0, 1) := by decide +kernel
theorem dX5_collectGaps_37 : decode cX5_collectGaps 37 = .ok (.iload 5, 2) := by decide +kernel
theorem dX5_collectGaps_39 : decode cX5_collectGaps 39 = .ok (.invokevirtual 208, 3) := by decide +kernel
theorem dX5_collectGaps_42 : decode cX5_collectGaps 42 = .ok (.ifCond .ne 5, 3) := by decide +kernel
theorem dX5_collectGaps_45 : decode cX5_collectGaps 45 = .ok (.iconst 0, 1) := by decide +kernel
theorem dX5_collectGaps_46 : decode cX5_collectGaps 46 = .ok (.ireturn, 1) := by decide +kernel
theorem dX5_collectGaps_47 : decode cX5_collectGaps 47 = .ok (.aload_n 0, 1) := by decide +kernel
theorem dX5_collectGaps_48 : decode cX5_collectGaps 48 = .ok (.iload 5, 2) := by decide +kernel
theorem dX5_collectGaps_50 : decode cX5_collectGaps 50 = .ok (.invokevirtual 164, 3) := by decide +kernel
theorem dX5_collectGaps_53 : decode cX5_collectGaps 53 = .ok (.ifCond .ne 13, 3) := by decide +kernel
theorem dX5_collectGaps_56 : decode cX5_collectGaps 56 = .ok (.aload_n 0, 1) := by decide +kernel
theorem dX5_collectGaps_57 : decode cX5_collectGaps 57 = .ok (.getfield 35, 3) := by decide +kernel
theorem dX5_collectGaps_60 : decode cX5_collectGaps 60 = .ok (.iload 5, 2) := by decide +kernel
theorem dX5_collectGaps_62 : decode cX5_collectGaps 62 = .ok (.iload_n 2, 1) := by decide +kernel
theorem dX5_collectGaps_63 : decode cX5_collectGaps 63 = .ok (.invokevirtual 265, 3) := by decide +kernel
theorem dX5_collectGaps_66 : decode cX5_collectGaps 66 = .ok (.iload_n 2, 1) := by decide +kernel
theorem dX5_collectGaps_67 : decode cX5_collectGaps 67 = .ok (.invokestatic 220, 3) := by decide +kernel
theorem dX5_collectGaps_70 : decode cX5_collectGaps 70 = .ok (.istore_n 2, 1) := by decide +kernel
theorem dX5_collectGaps_71 : decode cX5_collectGaps 71 = .ok (.iinc 4 1, 3) := by decide +kernel
theorem dX5_collectGaps_74 : decode cX5_collectGaps 74 = .ok (.goto (-56), 3) := by decide +kernel
theorem dX5_collectGaps_77 : decode cX5_collectGaps 77 = .ok (.aload_n 0, 1) := by decide +kernel
theorem dX5_collectGaps_78 : decode cX5_collectGaps 78 = .ok (.getfield 35, 3) := by decide +kernel
theorem dX5_collectGaps_81 : decode cX5_collectGaps 81 = .ok (.invokevirtual 267, 3) := by decide +kernel
theorem dX5_collectGaps_84 : decode cX5_collectGaps 84 = .ok (.ifCond .le 7, 3) := by decide +kernel
theorem dX5_collectGaps_87 : decode cX5_collectGaps 87 = .ok (.iconst 1, 1) := by decide +kernel
theorem dX5_collectGaps_88 : decode cX5_collectGaps 88 = .ok (.goto 4, 3) := by decide +kernel
theorem dX5_collectGaps_91 : decode cX5_collectGaps 91 = .ok (.iconst 0, 1) := by decide +kernel
theorem dX5_collectGaps_92 : decode cX5_collectGaps 92 = .ok (.ireturn, 1) := by decide +kernel
theorem dX5_countMissing_0 : decode cX5_countMissing 0 = .ok (.iconst 0, 1) := by decide +kernel
theorem dX5_countMissing_1 : decode cX5_countMissing 1 = .ok (.istore_n 2, 1) := by decide +kernel
theorem dX5_countMissing_2 : decode cX5_countMissing 2 = .ok (.aload_n 0, 1) := by decide +kernel
theorem dX5_countMissing_3 : decode cX5_countMissing 3 = .ok (.iload_n 1, 1) := by decide +kernel
theorem dX5_countMissing_4 : decode cX5_countMissing 4 = .ok (.invokevirtual 167, 3) := by decide +kernel
theorem dX5_countMissing_7 : decode cX5_countMissing 7 = .ok (.istore_n 3, 1) := by decide +kernel
theorem dX5_countMissing_8 : decode cX5_countMissing 8 = .ok (.iconst 0, 1) := by decide +kernel
theorem dX5_countMissing_9 : decode cX5_countMissing 9 = .ok (.istore 4, 2) := by decide +kernel
theorem dX5_countMissing_11 : decode cX5_countMissing 11 = .ok (.iload 4, 2) := by decide +kernel
theorem dX5_countMissing_13 : decode cX5_countMissing 13 = .ok (.iload_n 3, 1) := by decide +kernel
theorem dX5_countMissing_14 : decode cX5_countMissing 14 = .ok (.if_icmp .ge 29, 3) := by decide +kernel
theorem dX5_countMissing_17 : decode cX5_countMissing 17 = .ok (.aload_n 0, 1) := by decide +kernel
theorem dX5_countMissing_18 : decode cX5_countMissing 18 = .ok (.aload_n 0, 1) := by decide +kernel
theorem dX5_countMissing_19 : decode cX5_countMissing 19 = .ok (.getfield 12, 3) := by decide +kernel
theorem dX5_countMissing_22 : decode cX5_countMissing 22 = .ok (.iload_n 1, 1) := by decide +kernel
theorem dX5_countMissing_23 : decode cX5_countMissing 23 = .ok (.iload 4, 2) := by decide +kernel
theorem dX5_countMissing_25 : decode cX5_countMissing 25 = .ok (.invokevirtual 160, 3) := by decide +kernel
theorem dX5_countMissing_28 : decode cX5_countMissing 28 = .ok (.invokevirtual 164, 3) := by decide +kernel
theorem dX5_countMissing_31 : decode cX5_countMissing 31 = .ok (.ifCond .ne 6, 3) := by decide +kernel
theorem dX5_countMissing_34 : decode cX5_countMissing 34 = .ok (.iinc 2 1, 3) := by decide +kernel
theorem dX5_countMissing_37 : decode cX5_countMissing 37 = .ok (.iinc 4 1, 3) := by decide +kernel
theorem dX5_countMissing_40 : decode cX5_countMissing 40 = .ok (.goto (-29), 3) := by decide +kernel
theorem dX5_countMissing_43 : decode cX5_countMissing 43 = .ok (.iload_n 2, 1) := by decide +kernel
theorem dX5_countMissing_44 : decode cX5_countMissing 44 = .ok (.ireturn, 1) := by decide +kernel
theorem dX5_countRows_0 : decode cX5_countRows 0 = .ok (.bipush 59, 2) := by decide +kernel
theorem dX5_countRows_2 : decode cX5_countRows 2 = .ok (.istore_n 1, 1) := by decide +kernel
theorem dX5_countRows_3 : decode cX5_countRows 3 = .ok (.iload_n 1, 1) := by decide +kernel
theorem dX5_countRows_4 : decode cX5_countRows 4 = .ok (.aload_n 0, 1) := by decide +kernel
theorem dX5_countRows_5 : decode cX5_countRows 5 = .ok (.getfield 65, 3) := by decide +kernel
theorem dX5_countRows_8 : decode cX5_countRows 8 = .ok (.if_icmp .lt 26, 3) := by decide +kernel
theorem dX5_countRows_11 : decode cX5_countRows 11 = .ok (.aload_n 0, 1) := by decide +kernel
theorem dX5_countRows_12 : decode cX5_countRows 12 = .ok (.iload_n 1, 1) := by decide +kernel
theorem dX5_countRows_13 : decode cX5_countRows 13 = .ok (.invokevirtual 99, 3) := by decide +kernel
theorem dX5_countRows_16 : decode cX5_countRows 16 = .ok (.iconst (-1), 1) := by decide +kernel
theorem dX5_countRows_17 : decode cX5_countRows 17 = .ok (.if_icmp .eq 11, 3) := by decide +kernel
theorem dX5_countRows_20 : decode cX5_countRows 20 = .ok (.aload_n 0, 1) := by decide +kernel
theorem dX5_countRows_21 : decode cX5_countRows 21 = .ok (.iload_n 1, 1) := by decide +kernel
theorem dX5_countRows_22 : decode cX5_countRows 22 = .ok (.iconst 1, 1) := by decide +kernel
theorem dX5_countRows_23 : decode cX5_countRows 23 = .ok (.iadd, 1) := by decide +kernel
theorem dX5_countRows_24 : decode cX5_countRows 24 = .ok (.putfield 65, 3) := by decide +kernel
theorem dX5_countRows_27 : decode cX5_countRows 27 = .ok (.return_, 1) := by decide +kernel
theorem dX5_countRows_28 : decode cX5_countRows 28 = .ok (.iinc 1 (-1), 3) := by decide +kernel
theorem dX5_countRows_31 : decode cX5_countRows 31 = .ok (.goto (-28), 3) := by decide +kernel
theorem dX5_countRows_34 : decode cX5_countRows 34 = .ok (.return_, 1) := by decide +kernel
theorem dX5_fillGaps_0 : decode cX5_fillGaps 0 = .ok (.aload_n 0, 1) := by decide +kernel
theorem dX5_fillGaps_1 : decode cX5_fillGaps 1 = .ok (.getfield 35, 3) := by decide +kernel
theorem dX5_fillGaps_4 : decode cX5_fillGaps 4 = .ok (.invokevirtual 267, 3) := by decide +kernel
theorem dX5_fillGaps_7 : decode cX5_fillGaps 7 = .ok (.istore_n 1, 1) := by decide +kernel
theorem dX5_fillGaps_8 : decode cX5_fillGaps 8 = .ok (.iconst 0, 1) := by decide +kernel
theorem dX5_fillGaps_9 : decode cX5_fillGaps 9 = .ok (.istore_n 2, 1) := by decide +kernel
theorem dX5_fillGaps_10 : decode cX5_fillGaps 10 = .ok (.iload_n 2, 1) := by decide +kernel
theorem dX5_fillGaps_11 : decode cX5_fillGaps 11 = .ok (.iload_n 1, 1) := by decide +kernel
theorem dX5_fillGaps_12 : decode cX5_fillGaps 12 = .ok (.if_icmp .ge 89, 3) := by decide +kernel
theorem dX5_fillGaps_15 : decode cX5_fillGaps 15 = .ok (.aload_n 0, 1) := by decide +kernel
theorem dX5_fillGaps_16 : decode cX5_fillGaps 16 = .ok (.getfield 28, 3) := by decide +kernel
theorem dX5_fillGaps_19 : decode cX5_fillGaps 19 = .ok (.iconst 2, 1) := by decide +kernel
theorem dX5_fillGaps_20 : decode cX5_fillGaps 20 = .ok (.iconst 0, 1) := by decide +kernel
theorem dX5_fillGaps_21 : decode cX5_fillGaps 21 = .ok (.iconst 0, 1) := by decide +kernel
theorem dX5_fillGaps_22 : decode cX5_fillGaps 22 = .ok (.iconst 0, 1) := by decide +kernel
theorem dX5_fillGaps_23 : decode cX5_fillGaps 23 = .ok (.invokevirtual 84, 3) := by decide +kernel
theorem dX5_fillGaps_26 : decode cX5_fillGaps 26 = .ok (.iconst 0, 1) := by decide +kernel
theorem dX5_fillGaps_27 : decode cX5_fillGaps 27 = .ok (.istore_n 3, 1) := by decide +kernel
theorem dX5_fillGaps_28 : decode cX5_fillGaps 28 = .ok (.iload_n 3, 1) := by decide +kernel
theorem dX5_fillGaps_29 : decode cX5_fillGaps 29 = .ok (.bipush 24, 2) := by decide +kernel
theorem dX5_fillGaps_31 : decode cX5_fillGaps 31 = .ok (.if_icmp .ge 26, 3) := by decide +kernel
theorem dX5_fillGaps_34 : decode cX5_fillGaps 34 = .ok (.aload_n 0, 1) := by decide +kernel
theorem dX5_fillGaps_35 : decode cX5_fillGaps 35 = .ok (.getfield 28, 3) := by decide +kernel
theorem dX5_fillGaps_38 : decode cX5_fillGaps 38 = .ok (.iload_n 3, 1) := by decide +kernel
theorem dX5_fillGaps_39 : decode cX5_fillGaps 39 = .ok (.aload_n 0, 1) := by decide +kernel
theorem dX5_fillGaps_40 : decode cX5_fillGaps 40 = .ok (.getfield 35, 3) := by decide +kernel
theorem dX5_fillGaps_43 : decode cX5_fillGaps 43 = .ok (.iload_n 2, 1) := by decide +kernel
theorem dX5_fillGaps_44 : decode cX5_fillGaps 44 = .ok (.iload_n 3, 1) := by decide +kernel
theorem dX5_fillGaps_45 : decode cX5_fillGaps 45 = .ok (.invokevirtual 268, 3) := by decide +kernel
theorem dX5_fillGaps_48 : decode cX5_fillGaps 48 = .ok (.invokevirtual 88, 3) := by decide +kernel
theorem dX5_fillGaps_51 : decode cX5_fillGaps 51 = .ok (.iinc 3 1, 3) := by decide +kernel
theorem dX5_fillGaps_54 : decode cX5_fillGaps 54 = .ok (.goto (-26), 3) := by decide +kernel
theorem dX5_fillGaps_57 : decode cX5_fillGaps 57 = .ok (.aload_n 0, 1) := by decide +kernel
theorem dX5_fillGaps_58 : decode cX5_fillGaps 58 = .ok (.getfield 28, 3) := by decide +kernel
theorem dX5_fillGaps_61 : decode cX5_fillGaps 61 = .ok (.invokevirtual 231, 3) := by decide +kernel
theorem dX5_fillGaps_64 : decode cX5_fillGaps 64 = .ok (.aload_n 0, 1) := by decide +kernel
theorem dX5_fillGaps_65 : decode cX5_fillGaps 65 = .ok (.getfield 12, 3) := by decide +kernel
theorem dX5_fillGaps_68 : decode cX5_fillGaps 68 = .ok (.aload_n 0, 1) := by decide +kernel
theorem dX5_fillGaps_69 : decode cX5_fillGaps 69 = .ok (.getfield 35, 3) := by decide +kernel
theorem dX5_fillGaps_72 : decode cX5_fillGaps 72 = .ok (.iload_n 2, 1) := by decide +kernel
theorem dX5_fillGaps_73 : decode cX5_fillGaps 73 = .ok (.invokevirtual 271, 3) := by decide +kernel
theorem dX5_fillGaps_76 : decode cX5_fillGaps 76 = .ok (.aload_n 0, 1) := by decide +kernel
theorem dX5_fillGaps_77 : decode cX5_fillGaps 77 = .ok (.getfield 28, 3) := by decide +kernel
theorem dX5_fillGaps_80 : decode cX5_fillGaps 80 = .ok (.bipush 32, 2) := by decide +kernel
theorem dX5_fillGaps_82 : decode cX5_fillGaps 82 = .ok (.invokevirtual 118, 3) := by decide +kernel
theorem dX5_fillGaps_85 : decode cX5_fillGaps 85 = .ok (.aload_n 0, 1) := by decide +kernel
theorem dX5_fillGaps_86 : decode cX5_fillGaps 86 = .ok (.dup, 1) := by decide +kernel
theorem dX5_fillGaps_87 : decode cX5_fillGaps 87 = .ok (.getfield 144, 3) := by decide +kernel
theorem dX5_fillGaps_90 : decode cX5_fillGaps 90 = .ok (.iconst 1, 1) := by decide +kernel
theorem dX5_fillGaps_91 : decode cX5_fillGaps 91 = .ok (.iadd, 1) := by decide +kernel
theorem dX5_fillGaps_92 : decode cX5_fillGaps 92 = .ok (.putfield 144, 3) := by decide +kernel
theorem dX5_fillGaps_95 : decode cX5_fillGaps 95 = .ok (.iinc 2 1, 3) := by decide +kernel
theorem dX5_fillGaps_98 : decode cX5_fillGaps 98 = .ok (.goto (-88), 3) := by decide +kernel
theorem dX5_fillGaps_101 : decode cX5_fillGaps 101 = .ok (.return_, 1) := by decide +kernel
end
section
theorem dX5_findDraftedBlock_0 : decode cX5_findDraftedBlock 0 = .ok (.iconst 2, 1) := by decide +kernel
theorem dX5_findDraftedBlock_1 : decode cX5_findDraftedBlock 1 = .ok (.istore_n 1, 1) := by decide +kernel
theorem dX5_findDraftedBlock_2 : decode cX5_findDraftedBlock 2 = .ok (.iload_n 1, 1) := by decide +kernel
theorem dX5_findDraftedBlock_3 : decode cX5_findDraftedBlock 3 = .ok (.aload_n 0, 1) := by decide +kernel
theorem dX5_findDraftedBlock_4 : decode cX5_findDraftedBlock 4 = .ok (.getfield 50, 3) := by decide +kernel
theorem dX5_findDraftedBlock_7 : decode cX5_findDraftedBlock 7 = .ok (.if_icmp .ge 34, 3) := by decide +kernel
theorem dX5_findDraftedBlock_10 : decode cX5_findDraftedBlock 10 = .ok (.aload_n 0, 1) := by decide +kernel
theorem dX5_findDraftedBlock_11 : decode cX5_findDraftedBlock 11 = .ok (.iload_n 1, 1) := by decide +kernel
theorem dX5_findDraftedBlock_12 : decode cX5_findDraftedBlock 12 = .ok (.invokevirtual 164, 3) := by decide +kernel
theorem dX5_findDraftedBlock_15 : decode cX5_findDraftedBlock 15 = .ok (.ifCond .eq 20, 3) := by decide +kernel
theorem dX5_findDraftedBlock_18 : decode cX5_findDraftedBlock 18 = .ok (.aload_n 0, 1) := by decide +kernel
theorem dX5_findDraftedBlock_19 : decode cX5_findDraftedBlock 19 = .ok (.getfield 12, 3) := by decide +kernel
theorem dX5_findDraftedBlock_22 : decode cX5_findDraftedBlock 22 = .ok (.iload_n 1, 1) := by decide +kernel
theorem dX5_findDraftedBlock_23 : decode cX5_findDraftedBlock 23 = .ok (.aload_n 0, 1) := by decide +kernel
theorem dX5_findDraftedBlock_24 : decode cX5_findDraftedBlock 24 = .ok (.getfield 28, 3) := by decide +kernel
theorem dX5_findDraftedBlock_27 : decode cX5_findDraftedBlock 27 = .ok (.invokevirtual 211, 3) := by decide +kernel
theorem dX5_findDraftedBlock_30 : decode cX5_findDraftedBlock 30 = .ok (.ifCond .eq 5, 3) := by decide +kernel
theorem dX5_findDraftedBlock_33 : decode cX5_findDraftedBlock 33 = .ok (.iload_n 1, 1) := by decide +kernel
theorem dX5_findDraftedBlock_34 : decode cX5_findDraftedBlock 34 = .ok (.ireturn, 1) := by decide +kernel
theorem dX5_findDraftedBlock_35 : decode cX5_findDraftedBlock 35 = .ok (.iinc 1 1, 3) := by decide +kernel
theorem dX5_findDraftedBlock_38 : decode cX5_findDraftedBlock 38 = .ok (.goto (-36), 3) := by decide +kernel
theorem dX5_findDraftedBlock_41 : decode cX5_findDraftedBlock 41 = .ok (.iconst (-1), 1) := by decide +kernel
theorem dX5_findDraftedBlock_42 : decode cX5_findDraftedBlock 42 = .ok (.ireturn, 1) := by decide +kernel
theorem dX5_poke_0 : decode cX5_poke 0 = .ok (.aload_n 0, 1) := by decide +kernel
theorem dX5_poke_1 : decode cX5_poke 1 = .ok (.getfield 12, 3) := by decide +kernel
theorem dX5_poke_4 : decode cX5_poke 4 = .ok (.iload_n 1, 1) := by decide +kernel
theorem dX5_poke_5 : decode cX5_poke 5 = .ok (.iload_n 2, 1) := by decide +kernel
theorem dX5_poke_6 : decode cX5_poke 6 = .ok (.invokevirtual 185, 3) := by decide +kernel
theorem dX5_poke_9 : decode cX5_poke 9 = .ok (.ifCond .eq 14, 3) := by decide +kernel
theorem dX5_poke_12 : decode cX5_poke 12 = .ok (.iload_n 3, 1) := by decide +kernel
theorem dX5_poke_13 : decode cX5_poke 13 = .ok (.ifCond .lt 10, 3) := by decide +kernel
theorem dX5_poke_16 : decode cX5_poke 16 = .ok (.iload_n 3, 1) := by decide +kernel
theorem dX5_poke_17 : decode cX5_poke 17 = .ok (.sipush 255, 3) := by decide +kernel
theorem dX5_poke_20 : decode cX5_poke 20 = .ok (.if_icmp .le 6, 3) := by decide +kernel
theorem dX5_poke_23 : decode cX5_poke 23 = .ok (.bipush (-2), 2) := by decide +kernel
theorem dX5_poke_25 : decode cX5_poke 25 = .ok (.ireturn, 1) := by decide +kernel
theorem dX5_poke_26 : decode cX5_poke 26 = .ok (.aload_n 0, 1) := by decide +kernel
theorem dX5_poke_27 : decode cX5_poke 27 = .ok (.getfield 12, 3) := by decide +kernel
theorem dX5_poke_30 : decode cX5_poke 30 = .ok (.iload_n 1, 1) := by decide +kernel
theorem dX5_poke_31 : decode cX5_poke 31 = .ok (.iload_n 2, 1) := by decide +kernel
theorem dX5_poke_32 : decode cX5_poke 32 = .ok (.iload_n 3, 1) := by decide +kernel
theorem dX5_poke_33 : decode cX5_poke 33 = .ok (.invokevirtual 189, 3) := by decide +kernel
theorem dX5_poke_36 : decode cX5_poke 36 = .ok (.aload_n 0, 1) := by decide +kernel
theorem dX5_poke_37 : decode cX5_poke 37 = .ok (.getfield 12, 3) := by decide +kernel
theorem dX5_poke_40 : decode cX5_poke 40 = .ok (.iload_n 1, 1) := by decide +kernel
theorem dX5_poke_41 : decode cX5_poke 41 = .ok (.iload_n 2, 1) := by decide +kernel
theorem dX5_poke_42 : decode cX5_poke 42 = .ok (.invokevirtual 170, 3) := by decide +kernel
theorem dX5_poke_45 : decode cX5_poke 45 = .ok (.ireturn, 1) := by decide +kernel
theorem dX5_symbolByte_0 : decode cX5_symbolByte 0 = .ok (.iconst 0, 1) := by decide +kernel
theorem dX5_symbolByte_1 : decode cX5_symbolByte 1 = .ok (.istore 4, 2) := by decide +kernel
theorem dX5_symbolByte_3 : decode cX5_symbolByte 3 = .ok (.aload_n 0, 1) := by decide +kernel
theorem dX5_symbolByte_4 : decode cX5_symbolByte 4 = .ok (.iload_n 1, 1) := by decide +kernel
theorem dX5_symbolByte_5 : decode cX5_symbolByte 5 = .ok (.invokevirtual 167, 3) := by decide +kernel
theorem dX5_symbolByte_8 : decode cX5_symbolByte 8 = .ok (.iconst 1, 1) := by decide +kernel
theorem dX5_symbolByte_9 : decode cX5_symbolByte 9 = .ok (.isub, 1) := by decide +kernel
theorem dX5_symbolByte_10 : decode cX5_symbolByte 10 = .ok (.istore 5, 2) := by decide +kernel
theorem dX5_symbolByte_12 : decode cX5_symbolByte 12 = .ok (.iload 5, 2) := by decide +kernel
theorem dX5_symbolByte_14 : decode cX5_symbolByte 14 = .ok (.ifCond .lt 66, 3) := by decide +kernel
theorem dX5_symbolByte_17 : decode cX5_symbolByte 17 = .ok (.aload_n 0, 1) := by decide +kernel
theorem dX5_symbolByte_18 : decode cX5_symbolByte 18 = .ok (.getfield 12, 3) := by decide +kernel
theorem dX5_symbolByte_21 : decode cX5_symbolByte 21 = .ok (.iload_n 1, 1) := by decide +kernel
theorem dX5_symbolByte_22 : decode cX5_symbolByte 22 = .ok (.iload 5, 2) := by decide +kernel
theorem dX5_symbolByte_24 : decode cX5_symbolByte 24 = .ok (.invokevirtual 160, 3) := by decide +kernel
theorem dX5_symbolByte_27 : decode cX5_symbolByte 27 = .ok (.istore 6, 2) := by decide +kernel
theorem dX5_symbolByte_29 : decode cX5_symbolByte 29 = .ok (.aload_n 0, 1) := by decide +kernel
theorem dX5_symbolByte_30 : decode cX5_symbolByte 30 = .ok (.iload 6, 2) := by decide +kernel
theorem dX5_symbolByte_32 : decode cX5_symbolByte 32 = .ok (.invokevirtual 164, 3) := by decide +kernel
theorem dX5_symbolByte_35 : decode cX5_symbolByte 35 = .ok (.ifCond .eq 16, 3) := by decide +kernel
theorem dX5_symbolByte_38 : decode cX5_symbolByte 38 = .ok (.aload_n 0, 1) := by decide +kernel
theorem dX5_symbolByte_39 : decode cX5_symbolByte 39 = .ok (.getfield 12, 3) := by decide +kernel
theorem dX5_symbolByte_42 : decode cX5_symbolByte 42 = .ok (.iload 6, 2) := by decide +kernel
theorem dX5_symbolByte_44 : decode cX5_symbolByte 44 = .ok (.iload_n 3, 1) := by decide +kernel
theorem dX5_symbolByte_45 : decode cX5_symbolByte 45 = .ok (.invokevirtual 160, 3) := by decide +kernel
theorem dX5_symbolByte_48 : decode cX5_symbolByte 48 = .ok (.goto 4, 3) := by decide +kernel
theorem dX5_symbolByte_51 : decode cX5_symbolByte 51 = .ok (.iconst 0, 1) := by decide +kernel
theorem dX5_symbolByte_52 : decode cX5_symbolByte 52 = .ok (.istore 7, 2) := by decide +kernel
theorem dX5_symbolByte_54 : decode cX5_symbolByte 54 = .ok (.iload_n 2, 1) := by decide +kernel
theorem dX5_symbolByte_55 : decode cX5_symbolByte 55 = .ok (.iconst 1, 1) := by decide +kernel
theorem dX5_symbolByte_56 : decode cX5_symbolByte 56 = .ok (.if_icmp .ne 11, 3) := by decide +kernel
theorem dX5_symbolByte_59 : decode cX5_symbolByte 59 = .ok (.iload 4, 2) := by decide +kernel
theorem dX5_symbolByte_61 : decode cX5_symbolByte 61 = .ok (.invokestatic 220, 3) := by decide +kernel
theorem dX5_symbolByte_64 : decode cX5_symbolByte 64 = .ok (.goto 5, 3) := by decide +kernel
theorem dX5_symbolByte_67 : decode cX5_symbolByte 67 = .ok (.iload 4, 2) := by decide +kernel
theorem dX5_symbolByte_69 : decode cX5_symbolByte 69 = .ok (.iload 7, 2) := by decide +kernel
theorem dX5_symbolByte_71 : decode cX5_symbolByte 71 = .ok (.ixor, 1) := by decide +kernel
theorem dX5_symbolByte_72 : decode cX5_symbolByte 72 = .ok (.istore 4, 2) := by decide +kernel
theorem dX5_symbolByte_74 : decode cX5_symbolByte 74 = .ok (.iinc 5 (-1), 3) := by decide +kernel
theorem dX5_symbolByte_77 : decode cX5_symbolByte 77 = .ok (.goto (-65), 3) := by decide +kernel
theorem dX5_symbolByte_80 : decode cX5_symbolByte 80 = .ok (.iload 4, 2) := by decide +kernel
theorem dX5_symbolByte_82 : decode cX5_symbolByte 82 = .ok (.ireturn, 1) := by decide +kernel
theorem dX5_sync_0 : decode cX5_sync 0 = .ok (.aload_n 0, 1) := by decide +kernel
theorem dX5_sync_1 : decode cX5_sync 1 = .ok (.getfield 46, 3) := by decide +kernel
theorem dX5_sync_4 : decode cX5_sync 4 = .ok (.ifCond .ne 6, 3) := by decide +kernel
theorem dX5_sync_7 : decode cX5_sync 7 = .ok (.bipush (-3), 2) := by decide +kernel
theorem dX5_sync_9 : decode cX5_sync 9 = .ok (.ireturn, 1) := by decide +kernel
theorem dX5_sync_10 : decode cX5_sync 10 = .ok (.aload_n 0, 1) := by decide +kernel
theorem dX5_sync_11 : decode cX5_sync 11 = .ok (.dup, 1) := by decide +kernel
theorem dX5_sync_12 : decode cX5_sync 12 = .ok (.getfield 109, 3) := by decide +kernel
theorem dX5_sync_15 : decode cX5_sync 15 = .ok (.iconst 1, 1) := by decide +kernel
theorem dX5_sync_16 : decode cX5_sync 16 = .ok (.iadd, 1) := by decide +kernel
theorem dX5_sync_17 : decode cX5_sync 17 = .ok (.putfield 109, 3) := by decide +kernel
theorem dX5_sync_20 : decode cX5_sync 20 = .ok (.aload_n 0, 1) := by decide +kernel
theorem dX5_sync_21 : decode cX5_sync 21 = .ok (.aload_n 0, 1) := by decide +kernel
theorem dX5_sync_22 : decode cX5_sync 22 = .ok (.getfield 109, 3) := by decide +kernel
theorem dX5_sync_25 : decode cX5_sync 25 = .ok (.invokevirtual 112, 3) := by decide +kernel
theorem dX5_sync_28 : decode cX5_sync 28 = .ok (.aload_n 0, 1) := by decide +kernel
theorem dX5_sync_29 : decode cX5_sync 29 = .ok (.getfield 12, 3) := by decide +kernel
theorem dX5_sync_32 : decode cX5_sync 32 = .ok (.aload_n 0, 1) := by decide +kernel
theorem dX5_sync_33 : decode cX5_sync 33 = .ok (.getfield 109, 3) := by decide +kernel
theorem dX5_sync_36 : decode cX5_sync 36 = .ok (.invokestatic 115, 3) := by decide +kernel
theorem dX5_sync_39 : decode cX5_sync 39 = .ok (.aload_n 0, 1) := by decide +kernel
theorem dX5_sync_40 : decode cX5_sync 40 = .ok (.getfield 28, 3) := by decide +kernel
theorem dX5_sync_43 : decode cX5_sync 43 = .ok (.bipush 32, 2) := by decide +kernel
theorem dX5_sync_45 : decode cX5_sync 45 = .ok (.invokevirtual 118, 3) := by decide +kernel
theorem dX5_sync_48 : decode cX5_sync 48 = .ok (.aload_n 0, 1) := by decide +kernel
theorem dX5_sync_49 : decode cX5_sync 49 = .ok (.getfield 21, 3) := by decide +kernel
theorem dX5_sync_52 : decode cX5_sync 52 = .ok (.invokevirtual 122, 3) := by decide +kernel
theorem dX5_sync_55 : decode cX5_sync 55 = .ok (.aload_n 0, 1) := by decide +kernel
theorem dX5_sync_56 : decode cX5_sync 56 = .ok (.getfield 109, 3) := by decide +kernel
theorem dX5_sync_59 : decode cX5_sync 59 = .ok (.ireturn, 1) := by decide +kernel
theorem dX5_tearHead_0 : decode cX5_tearHead 0 = .ok (.aload_n 0, 1) := by decide +kernel
theorem dX5_tearHead_1 : decode cX5_tearHead 1 = .ok (.getfield 109, 3) := by decide +kernel
theorem dX5_tearHead_4 : decode cX5_tearHead 4 = .ok (.iconst 1, 1) := by decide +kernel
theorem dX5_tearHead_5 : decode cX5_tearHead 5 = .ok (.iadd, 1) := by decide +kernel
theorem dX5_tearHead_6 : decode cX5_tearHead 6 = .ok (.istore_n 2, 1) := by decide +kernel
theorem dX5_tearHead_7 : decode cX5_tearHead 7 = .ok (.aload_n 0, 1) := by decide +kernel
theorem dX5_tearHead_8 : decode cX5_tearHead 8 = .ok (.iload_n 2, 1) := by decide +kernel
theorem dX5_tearHead_9 : decode cX5_tearHead 9 = .ok (.invokevirtual 112, 3) := by decide +kernel
theorem dX5_tearHead_12 : decode cX5_tearHead 12 = .ok (.aload_n 0, 1) := by decide +kernel
theorem dX5_tearHead_13 : decode cX5_tearHead 13 = .ok (.getfield 12, 3) := by decide +kernel
theorem dX5_tearHead_16 : decode cX5_tearHead 16 = .ok (.iload_n 2, 1) := by decide +kernel
theorem dX5_tearHead_17 : decode cX5_tearHead 17 = .ok (.invokestatic 115, 3) := by decide +kernel
theorem dX5_tearHead_20 : decode cX5_tearHead 20 = .ok (.aload_n 0, 1) := by decide +kernel
theorem dX5_tearHead_21 : decode cX5_tearHead 21 = .ok (.getfield 28, 3) := by decide +kernel
theorem dX5_tearHead_24 : decode cX5_tearHead 24 = .ok (.iload_n 1, 1) := by decide +kernel
theorem dX5_tearHead_25 : decode cX5_tearHead 25 = .ok (.invokevirtual 118, 3) := by decide +kernel
theorem dX5_tearHead_28 : decode cX5_tearHead 28 = .ok (.return_, 1) := by decide +kernel
theorem dX5_writeNext_0 : decode cX5_writeNext 0 = .ok (.aload_n 0, 1) := by decide +kernel
theorem dX5_writeNext_1 : decode cX5_writeNext 1 = .ok (.getfield 12, 3) := by decide +kernel
theorem dX5_writeNext_4 : decode cX5_writeNext 4 = .ok (.aload_n 0, 1) := by decide +kernel
theorem dX5_writeNext_5 : decode cX5_writeNext 5 = .ok (.getfield 50, 3) := by decide +kernel
theorem dX5_writeNext_8 : decode cX5_writeNext 8 = .ok (.invokevirtual 176, 3) := by decide +kernel
theorem dX5_writeNext_11 : decode cX5_writeNext 11 = .ok (.ifCond .ne 5, 3) := by decide +kernel
theorem dX5_writeNext_14 : decode cX5_writeNext 14 = .ok (.iconst (-1), 1) := by decide +kernel
theorem dX5_writeNext_15 : decode cX5_writeNext 15 = .ok (.ireturn, 1) := by decide +kernel
theorem dX5_writeNext_16 : decode cX5_writeNext 16 = .ok (.aload_n 0, 1) := by decide +kernel
theorem dX5_writeNext_17 : decode cX5_writeNext 17 = .ok (.getfield 28, 3) := by decide +kernel
theorem dX5_writeNext_20 : decode cX5_writeNext 20 = .ok (.invokevirtual 231, 3) := by decide +kernel
theorem dX5_writeNext_23 : decode cX5_writeNext 23 = .ok (.aload_n 0, 1) := by decide +kernel
theorem dX5_writeNext_24 : decode cX5_writeNext 24 = .ok (.getfield 21, 3) := by decide +kernel
theorem dX5_writeNext_27 : decode cX5_writeNext 27 = .ok (.aload_n 0, 1) := by decide +kernel
theorem dX5_writeNext_28 : decode cX5_writeNext 28 = .ok (.getfield 50, 3) := by decide +kernel
theorem dX5_writeNext_31 : decode cX5_writeNext 31 = .ok (.aload_n 0, 1) := by decide +kernel
theorem dX5_writeNext_32 : decode cX5_writeNext 32 = .ok (.getfield 12, 3) := by decide +kernel
theorem dX5_writeNext_35 : decode cX5_writeNext 35 = .ok (.invokevirtual 234, 3) := by decide +kernel
theorem dX5_writeNext_38 : decode cX5_writeNext 38 = .ok (.aload_n 0, 1) := by decide +kernel
theorem dX5_writeNext_39 : decode cX5_writeNext 39 = .ok (.getfield 12, 3) := by decide +kernel
theorem dX5_writeNext_42 : decode cX5_writeNext 42 = .ok (.aload_n 0, 1) := by decide +kernel
theorem dX5_writeNext_43 : decode cX5_writeNext 43 = .ok (.getfield 50, 3) := by decide +kernel
theorem dX5_writeNext_46 : decode cX5_writeNext 46 = .ok (.aload_n 0, 1) := by decide +kernel
theorem dX5_writeNext_47 : decode cX5_writeNext 47 = .ok (.getfield 28, 3) := by decide +kernel
theorem dX5_writeNext_50 : decode cX5_writeNext 50 = .ok (.bipush 32, 2) := by decide +kernel
theorem dX5_writeNext_52 : decode cX5_writeNext 52 = .ok (.invokevirtual 118, 3) := by decide +kernel
theorem dX5_writeNext_55 : decode cX5_writeNext 55 = .ok (.aload_n 0, 1) := by decide +kernel
theorem dX5_writeNext_56 : decode cX5_writeNext 56 = .ok (.dup, 1) := by decide +kernel
theorem dX5_writeNext_57 : decode cX5_writeNext 57 = .ok (.getfield 50, 3) := by decide +kernel
theorem dX5_writeNext_60 : decode cX5_writeNext 60 = .ok (.iconst 1, 1) := by decide +kernel
theorem dX5_writeNext_61 : decode cX5_writeNext 61 = .ok (.iadd, 1) := by decide +kernel
theorem dX5_writeNext_62 : decode cX5_writeNext 62 = .ok (.putfield 50, 3) := by decide +kernel
theorem dX5_writeNext_65 : decode cX5_writeNext 65 = .ok (.aload_n 0, 1) := by decide +kernel
theorem dX5_writeNext_66 : decode cX5_writeNext 66 = .ok (.getfield 50, 3) := by decide +kernel
theorem dX5_writeNext_69 : decode cX5_writeNext 69 = .ok (.iconst 1, 1) := by decide +kernel
theorem dX5_writeNext_70 : decode cX5_writeNext 70 = .ok (.isub, 1) := by decide +kernel
theorem dX5_writeNext_71 : decode cX5_writeNext 71 = .ok (.ireturn, 1) := by decide +kernel
theorem dX5_cut_0 : decode cX5_cut 0 = .ok (.iload_n 2, 1) := by decide +kernel
theorem dX5_cut_1 : decode cX5_cut 1 = .ok (.iconst 1, 1) := by decide +kernel
theorem dX5_cut_2 : decode cX5_cut 2 = .ok (.if_icmp .lt 24, 3) := by decide +kernel
theorem dX5_cut_5 : decode cX5_cut 5 = .ok (.iload_n 2, 1) := by decide +kernel
theorem dX5_cut_6 : decode cX5_cut 6 = .ok (.bipush 32, 2) := by decide +kernel
theorem dX5_cut_8 : decode cX5_cut 8 = .ok (.if_icmp .ge 18, 3) := by decide +kernel
theorem dX5_cut_11 : decode cX5_cut 11 = .ok (.iload_n 1, 1) := by decide +kernel
theorem dX5_cut_12 : decode cX5_cut 12 = .ok (.ifCond .lt 14, 3) := by decide +kernel
theorem dX5_cut_15 : decode cX5_cut 15 = .ok (.iload_n 1, 1) := by decide +kernel
theorem dX5_cut_16 : decode cX5_cut 16 = .ok (.aload_n 0, 1) := by decide +kernel
theorem dX5_cut_17 : decode cX5_cut 17 = .ok (.getfield 21, 3) := by decide +kernel
theorem dX5_cut_20 : decode cX5_cut 20 = .ok (.invokevirtual 125, 3) := by decide +kernel
theorem dX5_cut_23 : decode cX5_cut 23 = .ok (.if_icmp .le 6, 3) := by decide +kernel
theorem dX5_cut_26 : decode cX5_cut 26 = .ok (.bipush (-2), 2) := by decide +kernel
theorem dX5_cut_28 : decode cX5_cut 28 = .ok (.ireturn, 1) := by decide +kernel
theorem dX5_cut_29 : decode cX5_cut 29 = .ok (.aload_n 0, 1) := by decide +kernel
theorem dX5_cut_30 : decode cX5_cut 30 = .ok (.getfield 46, 3) := by decide +kernel
theorem dX5_cut_33 : decode cX5_cut 33 = .ok (.ifCond .ne 6, 3) := by decide +kernel
theorem dX5_cut_36 : decode cX5_cut 36 = .ok (.bipush (-3), 2) := by decide +kernel
theorem dX5_cut_38 : decode cX5_cut 38 = .ok (.ireturn, 1) := by decide +kernel
theorem dX5_cut_39 : decode cX5_cut 39 = .ok (.iload_n 1, 1) := by decide +kernel
theorem dX5_cut_40 : decode cX5_cut 40 = .ok (.aload_n 0, 1) := by decide +kernel
theorem dX5_cut_41 : decode cX5_cut 41 = .ok (.getfield 21, 3) := by decide +kernel
theorem dX5_cut_44 : decode cX5_cut 44 = .ok (.invokevirtual 125, 3) := by decide +kernel
theorem dX5_cut_47 : decode cX5_cut 47 = .ok (.if_icmp .ne 11, 3) := by decide +kernel
theorem dX5_cut_50 : decode cX5_cut 50 = .ok (.aload_n 0, 1) := by decide +kernel
theorem dX5_cut_51 : decode cX5_cut 51 = .ok (.iload_n 2, 1) := by decide +kernel
theorem dX5_cut_52 : decode cX5_cut 52 = .ok (.invokevirtual 128, 3) := by decide +kernel
theorem dX5_cut_55 : decode cX5_cut 55 = .ok (.goto 16, 3) := by decide +kernel
theorem dX5_cut_58 : decode cX5_cut 58 = .ok (.aload_n 0, 1) := by decide +kernel
theorem dX5_cut_59 : decode cX5_cut 59 = .ok (.getfield 21, 3) := by decide +kernel
theorem dX5_cut_62 : decode cX5_cut 62 = .ok (.iload_n 1, 1) := by decide +kernel
theorem dX5_cut_63 : decode cX5_cut 63 = .ok (.iload_n 2, 1) := by decide +kernel
theorem dX5_cut_64 : decode cX5_cut 64 = .ok (.aload_n 0, 1) := by decide +kernel
theorem dX5_cut_65 : decode cX5_cut 65 = .ok (.getfield 12, 3) := by decide +kernel
theorem dX5_cut_68 : decode cX5_cut 68 = .ok (.invokevirtual 131, 3) := by decide +kernel
theorem dX5_cut_71 : decode cX5_cut 71 = .ok (.aload_n 0, 1) := by decide +kernel
theorem dX5_cut_72 : decode cX5_cut 72 = .ok (.iconst (-1), 1) := by decide +kernel
theorem dX5_cut_73 : decode cX5_cut 73 = .ok (.putfield 54, 3) := by decide +kernel
theorem dX5_cut_76 : decode cX5_cut 76 = .ok (.aload_n 0, 1) := by decide +kernel
theorem dX5_cut_77 : decode cX5_cut 77 = .ok (.iconst 0, 1) := by decide +kernel
theorem dX5_cut_78 : decode cX5_cut 78 = .ok (.putfield 46, 3) := by decide +kernel
theorem dX5_cut_81 : decode cX5_cut 81 = .ok (.iconst 1, 1) := by decide +kernel
theorem dX5_cut_82 : decode cX5_cut 82 = .ok (.ireturn, 1) := by decide +kernel
theorem dX5_isHurt_0 : decode cX5_isHurt 0 = .ok (.aload_n 0, 1) := by decide +kernel
theorem dX5_isHurt_1 : decode cX5_isHurt 1 = .ok (.iload_n 1, 1) := by decide +kernel
theorem dX5_isHurt_2 : decode cX5_isHurt 2 = .ok (.invokevirtual 99, 3) := by decide +kernel
theorem dX5_isHurt_5 : decode cX5_isHurt 5 = .ok (.istore_n 2, 1) := by decide +kernel
theorem dX5_isHurt_6 : decode cX5_isHurt 6 = .ok (.iload_n 2, 1) := by decide +kernel
theorem dX5_isHurt_7 : decode cX5_isHurt 7 = .ok (.iconst (-1), 1) := by decide +kernel
theorem dX5_isHurt_8 : decode cX5_isHurt 8 = .ok (.if_icmp .eq 11, 3) := by decide +kernel
theorem dX5_isHurt_11 : decode cX5_isHurt 11 = .ok (.aload_n 0, 1) := by decide +kernel
theorem dX5_isHurt_12 : decode cX5_isHurt 12 = .ok (.iload_n 2, 1) := by decide +kernel
theorem dX5_isHurt_13 : decode cX5_isHurt 13 = .ok (.invokevirtual 102, 3) := by decide +kernel
theorem dX5_isHurt_16 : decode cX5_isHurt 16 = .ok (.ifCond .le 7, 3) := by decide +kernel
theorem dX5_isHurt_19 : decode cX5_isHurt 19 = .ok (.iconst 1, 1) := by decide +kernel
theorem dX5_isHurt_20 : decode cX5_isHurt 20 = .ok (.goto 4, 3) := by decide +kernel
theorem dX5_isHurt_23 : decode cX5_isHurt 23 = .ok (.iconst 0, 1) := by decide +kernel
theorem dX5_isHurt_24 : decode cX5_isHurt 24 = .ok (.ireturn, 1) := by decide +kernel
theorem dX5_placeOpenBlock_0 : decode cX5_placeOpenBlock 0 = .ok (.aload_n 0, 1) := by decide +kernel
theorem dX5_placeOpenBlock_1 : decode cX5_placeOpenBlock 1 = .ok (.getfield 28, 3) := by decide +kernel
theorem dX5_placeOpenBlock_4 : decode cX5_placeOpenBlock 4 = .ok (.iconst 2, 1) := by decide +kernel
theorem dX5_placeOpenBlock_5 : decode cX5_placeOpenBlock 5 = .ok (.iconst 0, 1) := by decide +kernel
theorem dX5_placeOpenBlock_6 : decode cX5_placeOpenBlock 6 = .ok (.iconst 0, 1) := by decide +kernel
theorem dX5_placeOpenBlock_7 : decode cX5_placeOpenBlock 7 = .ok (.iconst 0, 1) := by decide +kernel
theorem dX5_placeOpenBlock_8 : decode cX5_placeOpenBlock 8 = .ok (.invokevirtual 84, 3) := by decide +kernel
theorem dX5_placeOpenBlock_11 : decode cX5_placeOpenBlock 11 = .ok (.iconst 0, 1) := by decide +kernel
theorem dX5_placeOpenBlock_12 : decode cX5_placeOpenBlock 12 = .ok (.istore_n 2, 1) := by decide +kernel
theorem dX5_placeOpenBlock_13 : decode cX5_placeOpenBlock 13 = .ok (.iload_n 2, 1) := by decide +kernel
theorem dX5_placeOpenBlock_14 : decode cX5_placeOpenBlock 14 = .ok (.bipush 24, 2) := by decide +kernel
theorem dX5_placeOpenBlock_16 : decode cX5_placeOpenBlock 16 = .ok (.if_icmp .ge 44, 3) := by decide +kernel
theorem dX5_placeOpenBlock_19 : decode cX5_placeOpenBlock 19 = .ok (.iload_n 1, 1) := by decide +kernel
theorem dX5_placeOpenBlock_20 : decode cX5_placeOpenBlock 20 = .ok (.bipush 24, 2) := by decide +kernel
theorem dX5_placeOpenBlock_22 : decode cX5_placeOpenBlock 22 = .ok (.imul, 1) := by decide +kernel
theorem dX5_placeOpenBlock_23 : decode cX5_placeOpenBlock 23 = .ok (.iload_n 2, 1) := by decide +kernel
theorem dX5_placeOpenBlock_24 : decode cX5_placeOpenBlock 24 = .ok (.iadd, 1) := by decide +kernel
theorem dX5_placeOpenBlock_25 : decode cX5_placeOpenBlock 25 = .ok (.istore_n 3, 1) := by decide +kernel
theorem dX5_placeOpenBlock_26 : decode cX5_placeOpenBlock 26 = .ok (.aload_n 0, 1) := by decide +kernel
theorem dX5_placeOpenBlock_27 : decode cX5_placeOpenBlock 27 = .ok (.getfield 28, 3) := by decide +kernel
theorem dX5_placeOpenBlock_30 : decode cX5_placeOpenBlock 30 = .ok (.iload_n 2, 1) := by decide +kernel
theorem dX5_placeOpenBlock_31 : decode cX5_placeOpenBlock 31 = .ok (.iload_n 3, 1) := by decide +kernel
theorem dX5_placeOpenBlock_32 : decode cX5_placeOpenBlock 32 = .ok (.ifCond .lt 18, 3) := by decide +kernel
theorem dX5_placeOpenBlock_35 : decode cX5_placeOpenBlock 35 = .ok (.iload_n 3, 1) := by decide +kernel
theorem dX5_placeOpenBlock_36 : decode cX5_placeOpenBlock 36 = .ok (.bipush 96, 2) := by decide +kernel
theorem dX5_placeOpenBlock_38 : decode cX5_placeOpenBlock 38 = .ok (.if_icmp .ge 12, 3) := by decide +kernel
theorem dX5_placeOpenBlock_41 : decode cX5_placeOpenBlock 41 = .ok (.aload_n 0, 1) := by decide +kernel
theorem dX5_placeOpenBlock_42 : decode cX5_placeOpenBlock 42 = .ok (.getfield 39, 3) := by decide +kernel
theorem dX5_placeOpenBlock_45 : decode cX5_placeOpenBlock 45 = .ok (.iload_n 3, 1) := by decide +kernel
theorem dX5_placeOpenBlock_46 : decode cX5_placeOpenBlock 46 = .ok (.iaload, 1) := by decide +kernel
theorem dX5_placeOpenBlock_47 : decode cX5_placeOpenBlock 47 = .ok (.goto 4, 3) := by decide +kernel
theorem dX5_placeOpenBlock_50 : decode cX5_placeOpenBlock 50 = .ok (.iconst 0, 1) := by decide +kernel
theorem dX5_placeOpenBlock_51 : decode cX5_placeOpenBlock 51 = .ok (.invokevirtual 88, 3) := by decide +kernel
theorem dX5_placeOpenBlock_54 : decode cX5_placeOpenBlock 54 = .ok (.iinc 2 1, 3) := by decide +kernel
theorem dX5_placeOpenBlock_57 : decode cX5_placeOpenBlock 57 = .ok (.goto (-44), 3) := by decide +kernel
theorem dX5_placeOpenBlock_60 : decode cX5_placeOpenBlock 60 = .ok (.aload_n 0, 1) := by decide +kernel
theorem dX5_placeOpenBlock_61 : decode cX5_placeOpenBlock 61 = .ok (.invokevirtual 225, 3) := by decide +kernel
theorem dX5_placeOpenBlock_64 : decode cX5_placeOpenBlock 64 = .ok (.istore_n 2, 1) := by decide +kernel
theorem dX5_placeOpenBlock_65 : decode cX5_placeOpenBlock 65 = .ok (.iload_n 2, 1) := by decide +kernel
theorem dX5_placeOpenBlock_66 : decode cX5_placeOpenBlock 66 = .ok (.iconst (-1), 1) := by decide +kernel
theorem dX5_placeOpenBlock_67 : decode cX5_placeOpenBlock 67 = .ok (.if_icmp .ne 8, 3) := by decide +kernel
theorem dX5_placeOpenBlock_70 : decode cX5_placeOpenBlock 70 = .ok (.aload_n 0, 1) := by decide +kernel
theorem dX5_placeOpenBlock_71 : decode cX5_placeOpenBlock 71 = .ok (.invokevirtual 92, 3) := by decide +kernel
theorem dX5_placeOpenBlock_74 : decode cX5_placeOpenBlock 74 = .ok (.ireturn, 1) := by decide +kernel
theorem dX5_placeOpenBlock_75 : decode cX5_placeOpenBlock 75 = .ok (.aload_n 0, 1) := by decide +kernel
theorem dX5_placeOpenBlock_76 : decode cX5_placeOpenBlock 76 = .ok (.dup, 1) := by decide +kernel
theorem dX5_placeOpenBlock_77 : decode cX5_placeOpenBlock 77 = .ok (.getfield 199, 3) := by decide +kernel
theorem dX5_placeOpenBlock_80 : decode cX5_placeOpenBlock 80 = .ok (.iconst 1, 1) := by decide +kernel
theorem dX5_placeOpenBlock_81 : decode cX5_placeOpenBlock 81 = .ok (.iadd, 1) := by decide +kernel
theorem dX5_placeOpenBlock_82 : decode cX5_placeOpenBlock 82 = .ok (.putfield 199, 3) := by decide +kernel
theorem dX5_placeOpenBlock_85 : decode cX5_placeOpenBlock 85 = .ok (.iload_n 2, 1) := by decide +kernel
theorem dX5_placeOpenBlock_86 : decode cX5_placeOpenBlock 86 = .ok (.ireturn, 1) := by decide +kernel
theorem dX5_readHead_0 : decode cX5_readHead 0 = .ok (.aload_n 0, 1) := by decide +kernel
theorem dX5_readHead_1 : decode cX5_readHead 1 = .ok (.invokevirtual 244, 3) := by decide +kernel
theorem dX5_readHead_4 : decode cX5_readHead 4 = .ok (.istore_n 1, 1) := by decide +kernel
theorem dX5_readHead_5 : decode cX5_readHead 5 = .ok (.aload_n 0, 1) := by decide +kernel
theorem dX5_readHead_6 : decode cX5_readHead 6 = .ok (.iload_n 1, 1) := by decide +kernel
theorem dX5_readHead_7 : decode cX5_readHead 7 = .ok (.iconst (-1), 1) := by decide +kernel
theorem dX5_readHead_8 : decode cX5_readHead 8 = .ok (.if_icmp .ne 7, 3) := by decide +kernel
theorem dX5_readHead_11 : decode cX5_readHead 11 = .ok (.iconst 0, 1) := by decide +kernel
theorem dX5_readHead_12 : decode cX5_readHead 12 = .ok (.goto 8, 3) := by decide +kernel
theorem dX5_readHead_15 : decode cX5_readHead 15 = .ok (.aload_n 0, 1) := by decide +kernel
theorem dX5_readHead_16 : decode cX5_readHead 16 = .ok (.iload_n 1, 1) := by decide +kernel
theorem dX5_readHead_17 : decode cX5_readHead 17 = .ok (.invokevirtual 241, 3) := by decide +kernel
theorem dX5_readHead_20 : decode cX5_readHead 20 = .ok (.putfield 109, 3) := by decide +kernel
theorem dX5_readHead_23 : decode cX5_readHead 23 = .ok (.aload_n 0, 1) := by decide +kernel
theorem dX5_readHead_24 : decode cX5_readHead 24 = .ok (.iload_n 1, 1) := by decide +kernel
theorem dX5_readHead_25 : decode cX5_readHead 25 = .ok (.iconst (-1), 1) := by decide +kernel
theorem dX5_readHead_26 : decode cX5_readHead 26 = .ok (.if_icmp .ne 7, 3) := by decide +kernel
theorem dX5_readHead_29 : decode cX5_readHead 29 = .ok (.iconst 2, 1) := by decide +kernel
theorem dX5_readHead_30 : decode cX5_readHead 30 = .ok (.goto 12, 3) := by decide +kernel
theorem dX5_readHead_33 : decode cX5_readHead 33 = .ok (.aload_n 0, 1) := by decide +kernel
theorem dX5_readHead_34 : decode cX5_readHead 34 = .ok (.getfield 12, 3) := by decide +kernel
theorem dX5_readHead_37 : decode cX5_readHead 37 = .ok (.iload_n 1, 1) := by decide +kernel
theorem dX5_readHead_38 : decode cX5_readHead 38 = .ok (.iconst 4, 1) := by decide +kernel
theorem dX5_readHead_39 : decode cX5_readHead 39 = .ok (.invokevirtual 160, 3) := by decide +kernel
theorem dX5_readHead_42 : decode cX5_readHead 42 = .ok (.putfield 50, 3) := by decide +kernel
theorem dX5_readHead_45 : decode cX5_readHead 45 = .ok (.aload_n 0, 1) := by decide +kernel
theorem dX5_readHead_46 : decode cX5_readHead 46 = .ok (.iload_n 1, 1) := by decide +kernel
theorem dX5_readHead_47 : decode cX5_readHead 47 = .ok (.iconst (-1), 1) := by decide +kernel
theorem dX5_readHead_48 : decode cX5_readHead 48 = .ok (.if_icmp .ne 7, 3) := by decide +kernel
theorem dX5_readHead_51 : decode cX5_readHead 51 = .ok (.iconst 0, 1) := by decide +kernel
theorem dX5_readHead_52 : decode cX5_readHead 52 = .ok (.goto 12, 3) := by decide +kernel
theorem dX5_readHead_55 : decode cX5_readHead 55 = .ok (.aload_n 0, 1) := by decide +kernel
theorem dX5_readHead_56 : decode cX5_readHead 56 = .ok (.getfield 12, 3) := by decide +kernel
theorem dX5_readHead_59 : decode cX5_readHead 59 = .ok (.iload_n 1, 1) := by decide +kernel
theorem dX5_readHead_60 : decode cX5_readHead 60 = .ok (.iconst 5, 1) := by decide +kernel
theorem dX5_readHead_61 : decode cX5_readHead 61 = .ok (.invokevirtual 160, 3) := by decide +kernel
theorem dX5_readHead_64 : decode cX5_readHead 64 = .ok (.putfield 65, 3) := by decide +kernel
theorem dX5_readHead_67 : decode cX5_readHead 67 = .ok (.return_, 1) := by decide +kernel
theorem dX5_repairRow_0 : decode cX5_repairRow 0 = .ok (.aload_n 0, 1) := by decide +kernel
theorem dX5_repairRow_1 : decode cX5_repairRow 1 = .ok (.iload_n 1, 1) := by decide +kernel
theorem dX5_repairRow_2 : decode cX5_repairRow 2 = .ok (.invokevirtual 99, 3) := by decide +kernel
theorem dX5_repairRow_5 : decode cX5_repairRow 5 = .ok (.istore_n 2, 1) := by decide +kernel
theorem dX5_repairRow_6 : decode cX5_repairRow 6 = .ok (.iload_n 2, 1) := by decide +kernel
theorem dX5_repairRow_7 : decode cX5_repairRow 7 = .ok (.iconst (-1), 1) := by decide +kernel
theorem dX5_repairRow_8 : decode cX5_repairRow 8 = .ok (.if_icmp .eq 11, 3) := by decide +kernel
theorem dX5_repairRow_11 : decode cX5_repairRow 11 = .ok (.aload_n 0, 1) := by decide +kernel
theorem dX5_repairRow_12 : decode cX5_repairRow 12 = .ok (.iload_n 2, 1) := by decide +kernel
theorem dX5_repairRow_13 : decode cX5_repairRow 13 = .ok (.invokevirtual 250, 3) := by decide +kernel
theorem dX5_repairRow_16 : decode cX5_repairRow 16 = .ok (.ifCond .ne 4, 3) := by decide +kernel
theorem dX5_repairRow_19 : decode cX5_repairRow 19 = .ok (.return_, 1) := by decide +kernel
theorem dX5_repairRow_20 : decode cX5_repairRow 20 = .ok (.aload_n 0, 1) := by decide +kernel
theorem dX5_repairRow_21 : decode cX5_repairRow 21 = .ok (.iload_n 1, 1) := by decide +kernel
theorem dX5_repairRow_22 : decode cX5_repairRow 22 = .ok (.iconst 0, 1) := by decide +kernel
theorem dX5_repairRow_23 : decode cX5_repairRow 23 = .ok (.invokevirtual 173, 3) := by decide +kernel
theorem dX5_repairRow_26 : decode cX5_repairRow 26 = .ok (.istore_n 3, 1) := by decide +kernel
theorem dX5_repairRow_27 : decode cX5_repairRow 27 = .ok (.aload_n 0, 1) := by decide +kernel
theorem dX5_repairRow_28 : decode cX5_repairRow 28 = .ok (.iload_n 1, 1) := by decide +kernel
theorem dX5_repairRow_29 : decode cX5_repairRow 29 = .ok (.iconst 1, 1) := by decide +kernel
theorem dX5_repairRow_30 : decode cX5_repairRow 30 = .ok (.invokevirtual 173, 3) := by decide +kernel
theorem dX5_repairRow_33 : decode cX5_repairRow 33 = .ok (.istore 4, 2) := by decide +kernel
theorem dX5_repairRow_35 : decode cX5_repairRow 35 = .ok (.aload_n 0, 1) := by decide +kernel
theorem dX5_repairRow_36 : decode cX5_repairRow 36 = .ok (.getfield 35, 3) := by decide +kernel
theorem dX5_repairRow_39 : decode cX5_repairRow 39 = .ok (.iload_n 3, 1) := by decide +kernel
theorem dX5_repairRow_40 : decode cX5_repairRow 40 = .ok (.iconst (-1), 1) := by decide +kernel
theorem dX5_repairRow_41 : decode cX5_repairRow 41 = .ok (.if_icmp .eq 7, 3) := by decide +kernel
theorem dX5_repairRow_44 : decode cX5_repairRow 44 = .ok (.iconst 1, 1) := by decide +kernel
theorem dX5_repairRow_45 : decode cX5_repairRow 45 = .ok (.goto 4, 3) := by decide +kernel
theorem dX5_repairRow_48 : decode cX5_repairRow 48 = .ok (.iconst 0, 1) := by decide +kernel
theorem dX5_repairRow_49 : decode cX5_repairRow 49 = .ok (.iload 4, 2) := by decide +kernel
theorem dX5_repairRow_51 : decode cX5_repairRow 51 = .ok (.iconst (-1), 1) := by decide +kernel
theorem dX5_repairRow_52 : decode cX5_repairRow 52 = .ok (.if_icmp .eq 7, 3) := by decide +kernel
theorem dX5_repairRow_55 : decode cX5_repairRow 55 = .ok (.iconst 1, 1) := by decide +kernel
theorem dX5_repairRow_56 : decode cX5_repairRow 56 = .ok (.goto 4, 3) := by decide +kernel
theorem dX5_repairRow_59 : decode cX5_repairRow 59 = .ok (.iconst 0, 1) := by decide +kernel
theorem dX5_repairRow_60 : decode cX5_repairRow 60 = .ok (.invokevirtual 253, 3) := by decide +kernel
theorem dX5_repairRow_63 : decode cX5_repairRow 63 = .ok (.ifCond .ne 4, 3) := by decide +kernel
theorem dX5_repairRow_66 : decode cX5_repairRow 66 = .ok (.return_, 1) := by decide +kernel
theorem dX5_repairRow_67 : decode cX5_repairRow 67 = .ok (.iconst 0, 1) := by decide +kernel
theorem dX5_repairRow_68 : decode cX5_repairRow 68 = .ok (.istore 5, 2) := by decide +kernel
theorem dX5_repairRow_70 : decode cX5_repairRow 70 = .ok (.iload 5, 2) := by decide +kernel
theorem dX5_repairRow_72 : decode cX5_repairRow 72 = .ok (.bipush 24, 2) := by decide +kernel
theorem dX5_repairRow_74 : decode cX5_repairRow 74 = .ok (.if_icmp .ge 88, 3) := by decide +kernel
theorem dX5_repairRow_77 : decode cX5_repairRow 77 = .ok (.iload_n 3, 1) := by decide +kernel
theorem dX5_repairRow_78 : decode cX5_repairRow 78 = .ok (.iconst (-1), 1) := by decide +kernel
theorem dX5_repairRow_79 : decode cX5_repairRow 79 = .ok (.if_icmp .ne 7, 3) := by decide +kernel
theorem dX5_repairRow_82 : decode cX5_repairRow 82 = .ok (.iconst 0, 1) := by decide +kernel
theorem dX5_repairRow_83 : decode cX5_repairRow 83 = .ok (.goto 22, 3) := by decide +kernel
theorem dX5_repairRow_86 : decode cX5_repairRow 86 = .ok (.aload_n 0, 1) := by decide +kernel
theorem dX5_repairRow_87 : decode cX5_repairRow 87 = .ok (.getfield 12, 3) := by decide +kernel
theorem dX5_repairRow_90 : decode cX5_repairRow 90 = .ok (.iload_n 3, 1) := by decide +kernel
theorem dX5_repairRow_91 : decode cX5_repairRow 91 = .ok (.iload 5, 2) := by decide +kernel
theorem dX5_repairRow_93 : decode cX5_repairRow 93 = .ok (.invokevirtual 160, 3) := by decide +kernel
theorem dX5_repairRow_96 : decode cX5_repairRow 96 = .ok (.aload_n 0, 1) := by decide +kernel
theorem dX5_repairRow_97 : decode cX5_repairRow 97 = .ok (.iload_n 2, 1) := by decide +kernel
theorem dX5_repairRow_98 : decode cX5_repairRow 98 = .ok (.iconst 0, 1) := by decide +kernel
theorem dX5_repairRow_99 : decode cX5_repairRow 99 = .ok (.iload 5, 2) := by decide +kernel
theorem dX5_repairRow_101 : decode cX5_repairRow 101 = .ok (.invokevirtual 228, 3) := by decide +kernel
theorem dX5_repairRow_104 : decode cX5_repairRow 104 = .ok (.ixor, 1) := by decide +kernel
theorem dX5_repairRow_105 : decode cX5_repairRow 105 = .ok (.istore 6, 2) := by decide +kernel
theorem dX5_repairRow_107 : decode cX5_repairRow 107 = .ok (.iload 4, 2) := by decide +kernel
theorem dX5_repairRow_109 : decode cX5_repairRow 109 = .ok (.iconst (-1), 1) := by decide +kernel
theorem dX5_repairRow_110 : decode cX5_repairRow 110 = .ok (.if_icmp .ne 7, 3) := by decide +kernel
theorem dX5_repairRow_113 : decode cX5_repairRow 113 = .ok (.iconst 0, 1) := by decide +kernel
theorem dX5_repairRow_114 : decode cX5_repairRow 114 = .ok (.goto 23, 3) := by decide +kernel
theorem dX5_repairRow_117 : decode cX5_repairRow 117 = .ok (.aload_n 0, 1) := by decide +kernel
theorem dX5_repairRow_118 : decode cX5_repairRow 118 = .ok (.getfield 12, 3) := by decide +kernel
theorem dX5_repairRow_121 : decode cX5_repairRow 121 = .ok (.iload 4, 2) := by decide +kernel
theorem dX5_repairRow_123 : decode cX5_repairRow 123 = .ok (.iload 5, 2) := by decide +kernel
theorem dX5_repairRow_125 : decode cX5_repairRow 125 = .ok (.invokevirtual 160, 3) := by decide +kernel
theorem dX5_repairRow_128 : decode cX5_repairRow 128 = .ok (.aload_n 0, 1) := by decide +kernel
theorem dX5_repairRow_129 : decode cX5_repairRow 129 = .ok (.iload_n 2, 1) := by decide +kernel
theorem dX5_repairRow_130 : decode cX5_repairRow 130 = .ok (.iconst 1, 1) := by decide +kernel
theorem dX5_repairRow_131 : decode cX5_repairRow 131 = .ok (.iload 5, 2) := by decide +kernel
theorem dX5_repairRow_133 : decode cX5_repairRow 133 = .ok (.invokevirtual 228, 3) := by decide +kernel
theorem dX5_repairRow_136 : decode cX5_repairRow 136 = .ok (.ixor, 1) := by decide +kernel
theorem dX5_repairRow_137 : decode cX5_repairRow 137 = .ok (.istore 7, 2) := by decide +kernel
theorem dX5_repairRow_139 : decode cX5_repairRow 139 = .ok (.aload_n 0, 1) := by decide +kernel
theorem dX5_repairRow_140 : decode cX5_repairRow 140 = .ok (.getfield 35, 3) := by decide +kernel
theorem dX5_repairRow_143 : decode cX5_repairRow 143 = .ok (.iload 5, 2) := by decide +kernel
theorem dX5_repairRow_145 : decode cX5_repairRow 145 = .ok (.iload 6, 2) := by decide +kernel
theorem dX5_repairRow_147 : decode cX5_repairRow 147 = .ok (.iload 7, 2) := by decide +kernel
theorem dX5_repairRow_149 : decode cX5_repairRow 149 = .ok (.invokevirtual 257, 3) := by decide +kernel
theorem dX5_repairRow_152 : decode cX5_repairRow 152 = .ok (.ifCond .ne 4, 3) := by decide +kernel
theorem dX5_repairRow_155 : decode cX5_repairRow 155 = .ok (.return_, 1) := by decide +kernel
theorem dX5_repairRow_156 : decode cX5_repairRow 156 = .ok (.iinc 5 1, 3) := by decide +kernel
theorem dX5_repairRow_159 : decode cX5_repairRow 159 = .ok (.goto (-89), 3) := by decide +kernel
theorem dX5_repairRow_162 : decode cX5_repairRow 162 = .ok (.aload_n 0, 1) := by decide +kernel
theorem dX5_repairRow_163 : decode cX5_repairRow 163 = .ok (.invokevirtual 261, 3) := by decide +kernel
theorem dX5_repairRow_166 : decode cX5_repairRow 166 = .ok (.return_, 1) := by decide +kernel
theorem dX5_row_0 : decode cX5_row 0 = .ok (.iload_n 2, 1) := by decide +kernel
theorem dX5_row_1 : decode cX5_row 1 = .ok (.bipush 10, 2) := by decide +kernel
theorem dX5_row_3 : decode cX5_row 3 = .ok (.if_icmp .lt 13, 3) := by decide +kernel
theorem dX5_row_6 : decode cX5_row 6 = .ok (.iload_n 2, 1) := by decide +kernel
theorem dX5_row_7 : decode cX5_row 7 = .ok (.bipush 14, 2) := by decide +kernel
theorem dX5_row_9 : decode cX5_row 9 = .ok (.if_icmp .ge 7, 3) := by decide +kernel
theorem dX5_row_12 : decode cX5_row 12 = .ok (.iconst 1, 1) := by decide +kernel
theorem dX5_row_13 : decode cX5_row 13 = .ok (.goto 4, 3) := by decide +kernel
theorem dX5_row_16 : decode cX5_row 16 = .ok (.iconst 0, 1) := by decide +kernel
theorem dX5_row_17 : decode cX5_row 17 = .ok (.istore_n 3, 1) := by decide +kernel
theorem dX5_row_18 : decode cX5_row 18 = .ok (.aload_n 0, 1) := by decide +kernel
theorem dX5_row_19 : decode cX5_row 19 = .ok (.iload_n 1, 1) := by decide +kernel
theorem dX5_row_20 : decode cX5_row 20 = .ok (.invokevirtual 95, 3) := by decide +kernel
theorem dX5_row_23 : decode cX5_row 23 = .ok (.ifCond .eq 17, 3) := by decide +kernel
theorem dX5_row_26 : decode cX5_row 26 = .ok (.iload_n 2, 1) := by decide +kernel
theorem dX5_row_27 : decode cX5_row 27 = .ok (.ifCond .lt 13, 3) := by decide +kernel
theorem dX5_row_30 : decode cX5_row 30 = .ok (.iload_n 2, 1) := by decide +kernel
theorem dX5_row_31 : decode cX5_row 31 = .ok (.bipush 6, 2) := by decide +kernel
theorem dX5_row_33 : decode cX5_row 33 = .ok (.if_icmp .le 10, 3) := by decide +kernel
theorem dX5_row_36 : decode cX5_row 36 = .ok (.iload_n 3, 1) := by decide +kernel
theorem dX5_row_37 : decode cX5_row 37 = .ok (.ifCond .ne 6, 3) := by decide +kernel
theorem dX5_row_40 : decode cX5_row 40 = .ok (.bipush (-2), 2) := by decide +kernel
theorem dX5_row_42 : decode cX5_row 42 = .ok (.ireturn, 1) := by decide +kernel
theorem dX5_row_43 : decode cX5_row 43 = .ok (.aload_n 0, 1) := by decide +kernel
theorem dX5_row_44 : decode cX5_row 44 = .ok (.getfield 46, 3) := by decide +kernel
theorem dX5_row_47 : decode cX5_row 47 = .ok (.ifCond .ne 6, 3) := by decide +kernel
theorem dX5_row_50 : decode cX5_row 50 = .ok (.bipush (-3), 2) := by decide +kernel
theorem dX5_row_52 : decode cX5_row 52 = .ok (.ireturn, 1) := by decide +kernel
theorem dX5_row_53 : decode cX5_row 53 = .ok (.aload_n 0, 1) := by decide +kernel
theorem dX5_row_54 : decode cX5_row 54 = .ok (.iload_n 1, 1) := by decide +kernel
theorem dX5_row_55 : decode cX5_row 55 = .ok (.invokevirtual 99, 3) := by decide +kernel
theorem dX5_row_58 : decode cX5_row 58 = .ok (.istore 4, 2) := by decide +kernel
theorem dX5_row_60 : decode cX5_row 60 = .ok (.iload 4, 2) := by decide +kernel
theorem dX5_row_62 : decode cX5_row 62 = .ok (.iconst (-1), 1) := by decide +kernel
theorem dX5_row_63 : decode cX5_row 63 = .ok (.if_icmp .ne 5, 3) := by decide +kernel
theorem dX5_row_66 : decode cX5_row 66 = .ok (.iconst (-1), 1) := by decide +kernel
theorem dX5_row_67 : decode cX5_row 67 = .ok (.ireturn, 1) := by decide +kernel
theorem dX5_row_68 : decode cX5_row 68 = .ok (.iload_n 3, 1) := by decide +kernel
theorem dX5_row_69 : decode cX5_row 69 = .ok (.ifCond .eq 36, 3) := by decide +kernel
theorem dX5_row_72 : decode cX5_row 72 = .ok (.iload_n 2, 1) := by decide +kernel
theorem dX5_row_73 : decode cX5_row 73 = .ok (.bipush 10, 2) := by decide +kernel
theorem dX5_row_75 : decode cX5_row 75 = .ok (.isub, 1) := by decide +kernel
theorem dX5_row_76 : decode cX5_row 76 = .ok (.istore 5, 2) := by decide +kernel
theorem dX5_row_78 : decode cX5_row 78 = .ok (.iload 5, 2) := by decide +kernel
theorem dX5_row_80 : decode cX5_row 80 = .ok (.aload_n 0, 1) := by decide +kernel
theorem dX5_row_81 : decode cX5_row 81 = .ok (.iload 4, 2) := by decide +kernel
theorem dX5_row_83 : decode cX5_row 83 = .ok (.invokevirtual 167, 3) := by decide +kernel
theorem dX5_row_86 : decode cX5_row 86 = .ok (.if_icmp .ge 17, 3) := by decide +kernel
theorem dX5_row_89 : decode cX5_row 89 = .ok (.aload_n 0, 1) := by decide +kernel
theorem dX5_row_90 : decode cX5_row 90 = .ok (.getfield 12, 3) := by decide +kernel
theorem dX5_row_93 : decode cX5_row 93 = .ok (.iload 4, 2) := by decide +kernel
theorem dX5_row_95 : decode cX5_row 95 = .ok (.iload 5, 2) := by decide +kernel
theorem dX5_row_97 : decode cX5_row 97 = .ok (.invokevirtual 160, 3) := by decide +kernel
theorem dX5_row_100 : decode cX5_row 100 = .ok (.goto 4, 3) := by decide +kernel
theorem dX5_row_103 : decode cX5_row 103 = .ok (.iconst (-1), 1) := by decide +kernel
theorem dX5_row_104 : decode cX5_row 104 = .ok (.ireturn, 1) := by decide +kernel
theorem dX5_row_105 : decode cX5_row 105 = .ok (.iload_n 2, 1) := by decide +kernel
theorem dX5_row_106 : decode cX5_row 106 = .ok (.tableswitch 80 0 5 #[38, 49, 56, 59, 66, 73], 38) := by decide +kernel
theorem dX5_row_144 : decode cX5_row 144 = .ok (.aload_n 0, 1) := by decide +kernel
theorem dX5_row_145 : decode cX5_row 145 = .ok (.getfield 12, 3) := by decide +kernel
theorem dX5_row_148 : decode cX5_row 148 = .ok (.iload 4, 2) := by decide +kernel
theorem dX5_row_150 : decode cX5_row 150 = .ok (.iconst 1, 1) := by decide +kernel
theorem dX5_row_151 : decode cX5_row 151 = .ok (.invokevirtual 170, 3) := by decide +kernel
theorem dX5_row_154 : decode cX5_row 154 = .ok (.ireturn, 1) := by decide +kernel
theorem dX5_row_155 : decode cX5_row 155 = .ok (.aload_n 0, 1) := by decide +kernel
theorem dX5_row_156 : decode cX5_row 156 = .ok (.iload 4, 2) := by decide +kernel
theorem dX5_row_158 : decode cX5_row 158 = .ok (.invokevirtual 150, 3) := by decide +kernel
theorem dX5_row_161 : decode cX5_row 161 = .ok (.ireturn, 1) := by decide +kernel
theorem dX5_row_162 : decode cX5_row 162 = .ok (.iload 4, 2) := by decide +kernel
theorem dX5_row_164 : decode cX5_row 164 = .ok (.ireturn, 1) := by decide +kernel
theorem dX5_row_165 : decode cX5_row 165 = .ok (.aload_n 0, 1) := by decide +kernel
theorem dX5_row_166 : decode cX5_row 166 = .ok (.iload_n 1, 1) := by decide +kernel
theorem dX5_row_167 : decode cX5_row 167 = .ok (.iconst 0, 1) := by decide +kernel
theorem dX5_row_168 : decode cX5_row 168 = .ok (.invokevirtual 173, 3) := by decide +kernel
theorem dX5_row_171 : decode cX5_row 171 = .ok (.ireturn, 1) := by decide +kernel
theorem dX5_row_172 : decode cX5_row 172 = .ok (.aload_n 0, 1) := by decide +kernel
theorem dX5_row_173 : decode cX5_row 173 = .ok (.iload_n 1, 1) := by decide +kernel
theorem dX5_row_174 : decode cX5_row 174 = .ok (.iconst 1, 1) := by decide +kernel
theorem dX5_row_175 : decode cX5_row 175 = .ok (.invokevirtual 173, 3) := by decide +kernel
theorem dX5_row_178 : decode cX5_row 178 = .ok (.ireturn, 1) := by decide +kernel
theorem dX5_row_179 : decode cX5_row 179 = .ok (.aload_n 0, 1) := by decide +kernel
theorem dX5_row_180 : decode cX5_row 180 = .ok (.iload 4, 2) := by decide +kernel
theorem dX5_row_182 : decode cX5_row 182 = .ok (.invokevirtual 167, 3) := by decide +kernel
theorem dX5_row_185 : decode cX5_row 185 = .ok (.ireturn, 1) := by decide +kernel
theorem dX5_row_186 : decode cX5_row 186 = .ok (.aload_n 0, 1) := by decide +kernel
theorem dX5_row_187 : decode cX5_row 187 = .ok (.iload 4, 2) := by decide +kernel
theorem dX5_row_189 : decode cX5_row 189 = .ok (.invokevirtual 102, 3) := by decide +kernel
theorem dX5_row_192 : decode cX5_row 192 = .ok (.ireturn, 1) := by decide +kernel
theorem dX5_writeSymbol_0 : decode cX5_writeSymbol 0 = .ok (.aload_n 0, 1) := by decide +kernel
theorem dX5_writeSymbol_1 : decode cX5_writeSymbol 1 = .ok (.getfield 28, 3) := by decide +kernel
theorem dX5_writeSymbol_4 : decode cX5_writeSymbol 4 = .ok (.iconst 4, 1) := by decide +kernel
theorem dX5_writeSymbol_5 : decode cX5_writeSymbol 5 = .ok (.iload_n 1, 1) := by decide +kernel
theorem dX5_writeSymbol_6 : decode cX5_writeSymbol 6 = .ok (.iload_n 3, 1) := by decide +kernel
theorem dX5_writeSymbol_7 : decode cX5_writeSymbol 7 = .ok (.iconst 0, 1) := by decide +kernel
theorem dX5_writeSymbol_8 : decode cX5_writeSymbol 8 = .ok (.invokevirtual 84, 3) := by decide +kernel
theorem dX5_writeSymbol_11 : decode cX5_writeSymbol 11 = .ok (.iconst 0, 1) := by decide +kernel
theorem dX5_writeSymbol_12 : decode cX5_writeSymbol 12 = .ok (.istore 4, 2) := by decide +kernel
theorem dX5_writeSymbol_14 : decode cX5_writeSymbol 14 = .ok (.iload 4, 2) := by decide +kernel
theorem dX5_writeSymbol_16 : decode cX5_writeSymbol 16 = .ok (.bipush 24, 2) := by decide +kernel
theorem dX5_writeSymbol_18 : decode cX5_writeSymbol 18 = .ok (.if_icmp .ge 26, 3) := by decide +kernel
theorem dX5_writeSymbol_21 : decode cX5_writeSymbol 21 = .ok (.aload_n 0, 1) := by decide +kernel
theorem dX5_writeSymbol_22 : decode cX5_writeSymbol 22 = .ok (.getfield 28, 3) := by decide +kernel
theorem dX5_writeSymbol_25 : decode cX5_writeSymbol 25 = .ok (.iload 4, 2) := by decide +kernel
theorem dX5_writeSymbol_27 : decode cX5_writeSymbol 27 = .ok (.aload_n 0, 1) := by decide +kernel
theorem dX5_writeSymbol_28 : decode cX5_writeSymbol 28 = .ok (.iload_n 2, 1) := by decide +kernel
theorem dX5_writeSymbol_29 : decode cX5_writeSymbol 29 = .ok (.iload_n 3, 1) := by decide +kernel
theorem dX5_writeSymbol_30 : decode cX5_writeSymbol 30 = .ok (.iload 4, 2) := by decide +kernel
theorem dX5_writeSymbol_32 : decode cX5_writeSymbol 32 = .ok (.invokevirtual 228, 3) := by decide +kernel
theorem dX5_writeSymbol_35 : decode cX5_writeSymbol 35 = .ok (.invokevirtual 88, 3) := by decide +kernel
theorem dX5_writeSymbol_38 : decode cX5_writeSymbol 38 = .ok (.iinc 4 1, 3) := by decide +kernel
theorem dX5_writeSymbol_41 : decode cX5_writeSymbol 41 = .ok (.goto (-27), 3) := by decide +kernel
theorem dX5_writeSymbol_44 : decode cX5_writeSymbol 44 = .ok (.aload_n 0, 1) := by decide +kernel
theorem dX5_writeSymbol_45 : decode cX5_writeSymbol 45 = .ok (.invokevirtual 92, 3) := by decide +kernel
theorem dX5_writeSymbol_48 : decode cX5_writeSymbol 48 = .ok (.ireturn, 1) := by decide +kernel
theorem dX5_end_0 : decode cX5_end 0 = .ok (.aload_n 0, 1) := by decide +kernel
theorem dX5_end_1 : decode cX5_end 1 = .ok (.getfield 46, 3) := by decide +kernel
theorem dX5_end_4 : decode cX5_end 4 = .ok (.ifCond .eq 10, 3) := by decide +kernel
theorem dX5_end_7 : decode cX5_end 7 = .ok (.aload_n 0, 1) := by decide +kernel
theorem dX5_end_8 : decode cX5_end 8 = .ok (.invokevirtual 57, 3) := by decide +kernel
theorem dX5_end_11 : decode cX5_end 11 = .ok (.ifCond .ne 6, 3) := by decide +kernel
theorem dX5_end_14 : decode cX5_end 14 = .ok (.bipush (-3), 2) := by decide +kernel
theorem dX5_end_16 : decode cX5_end 16 = .ok (.ireturn, 1) := by decide +kernel
theorem dX5_end_17 : decode cX5_end 17 = .ok (.aload_n 0, 1) := by decide +kernel
theorem dX5_end_18 : decode cX5_end 18 = .ok (.getfield 54, 3) := by decide +kernel
theorem dX5_end_21 : decode cX5_end 21 = .ok (.invokestatic 77, 3) := by decide +kernel
theorem dX5_end_24 : decode cX5_end 24 = .ok (.istore_n 1, 1) := by decide +kernel
theorem dX5_end_25 : decode cX5_end 25 = .ok (.iconst 0, 1) := by decide +kernel
theorem dX5_end_26 : decode cX5_end 26 = .ok (.istore_n 2, 1) := by decide +kernel
theorem dX5_end_27 : decode cX5_end 27 = .ok (.iload_n 2, 1) := by decide +kernel
theorem dX5_end_28 : decode cX5_end 28 = .ok (.iload_n 1, 1) := by decide +kernel
theorem dX5_end_29 : decode cX5_end 29 = .ok (.if_icmp .ge 20, 3) := by decide +kernel
theorem dX5_end_32 : decode cX5_end 32 = .ok (.aload_n 0, 1) := by decide +kernel
theorem dX5_end_33 : decode cX5_end 33 = .ok (.getfield 43, 3) := by decide +kernel
theorem dX5_end_36 : decode cX5_end 36 = .ok (.iload_n 2, 1) := by decide +kernel
theorem dX5_end_37 : decode cX5_end 37 = .ok (.aload_n 0, 1) := by decide +kernel
theorem dX5_end_38 : decode cX5_end 38 = .ok (.iload_n 2, 1) := by decide +kernel
theorem dX5_end_39 : decode cX5_end 39 = .ok (.invokevirtual 81, 3) := by decide +kernel
theorem dX5_end_42 : decode cX5_end 42 = .ok (.iastore, 1) := by decide +kernel
theorem dX5_end_43 : decode cX5_end 43 = .ok (.iinc 2 1, 3) := by decide +kernel
theorem dX5_end_46 : decode cX5_end 46 = .ok (.goto (-19), 3) := by decide +kernel
theorem dX5_end_49 : decode cX5_end 49 = .ok (.aload_n 0, 1) := by decide +kernel
theorem dX5_end_50 : decode cX5_end 50 = .ok (.getfield 28, 3) := by decide +kernel
theorem dX5_end_53 : decode cX5_end 53 = .ok (.iconst 3, 1) := by decide +kernel
theorem dX5_end_54 : decode cX5_end 54 = .ok (.aload_n 0, 1) := by decide +kernel
theorem dX5_end_55 : decode cX5_end 55 = .ok (.getfield 74, 3) := by decide +kernel
theorem dX5_end_58 : decode cX5_end 58 = .ok (.aload_n 0, 1) := by decide +kernel
theorem dX5_end_59 : decode cX5_end 59 = .ok (.getfield 65, 3) := by decide +kernel
theorem dX5_end_62 : decode cX5_end 62 = .ok (.aload_n 0, 1) := by decide +kernel
theorem dX5_end_63 : decode cX5_end 63 = .ok (.getfield 54, 3) := by decide +kernel
theorem dX5_end_66 : decode cX5_end 66 = .ok (.invokevirtual 84, 3) := by decide +kernel
theorem dX5_end_69 : decode cX5_end 69 = .ok (.iconst 0, 1) := by decide +kernel
theorem dX5_end_70 : decode cX5_end 70 = .ok (.istore_n 2, 1) := by decide +kernel
theorem dX5_end_71 : decode cX5_end 71 = .ok (.iload_n 2, 1) := by decide +kernel
theorem dX5_end_72 : decode cX5_end 72 = .ok (.iload_n 1, 1) := by decide +kernel
theorem dX5_end_73 : decode cX5_end 73 = .ok (.if_icmp .ge 23, 3) := by decide +kernel
theorem dX5_end_76 : decode cX5_end 76 = .ok (.aload_n 0, 1) := by decide +kernel
theorem dX5_end_77 : decode cX5_end 77 = .ok (.getfield 28, 3) := by decide +kernel
theorem dX5_end_80 : decode cX5_end 80 = .ok (.iload_n 2, 1) := by decide +kernel
theorem dX5_end_81 : decode cX5_end 81 = .ok (.aload_n 0, 1) := by decide +kernel
theorem dX5_end_82 : decode cX5_end 82 = .ok (.getfield 43, 3) := by decide +kernel
theorem dX5_end_85 : decode cX5_end 85 = .ok (.iload_n 2, 1) := by decide +kernel
theorem dX5_end_86 : decode cX5_end 86 = .ok (.iaload, 1) := by decide +kernel
theorem dX5_end_87 : decode cX5_end 87 = .ok (.invokevirtual 88, 3) := by decide +kernel
theorem dX5_end_90 : decode cX5_end 90 = .ok (.iinc 2 1, 3) := by decide +kernel
theorem dX5_end_93 : decode cX5_end 93 = .ok (.goto (-22), 3) := by decide +kernel
theorem dX5_end_96 : decode cX5_end 96 = .ok (.aload_n 0, 1) := by decide +kernel
theorem dX5_end_97 : decode cX5_end 97 = .ok (.invokevirtual 92, 3) := by decide +kernel
theorem dX5_end_100 : decode cX5_end 100 = .ok (.pop, 1) := by decide +kernel
theorem dX5_end_101 : decode cX5_end 101 = .ok (.aload_n 0, 1) := by decide +kernel
theorem dX5_end_102 : decode cX5_end 102 = .ok (.iconst (-1), 1) := by decide +kernel
theorem dX5_end_103 : decode cX5_end 103 = .ok (.putfield 54, 3) := by decide +kernel
theorem dX5_end_106 : decode cX5_end 106 = .ok (.aload_n 0, 1) := by decide +kernel
theorem dX5_end_107 : decode cX5_end 107 = .ok (.dup, 1) := by decide +kernel
theorem dX5_end_108 : decode cX5_end 108 = .ok (.getfield 65, 3) := by decide +kernel
theorem dX5_end_111 : decode cX5_end 111 = .ok (.iconst 1, 1) := by decide +kernel
theorem dX5_end_112 : decode cX5_end 112 = .ok (.iadd, 1) := by decide +kernel
theorem dX5_end_113 : decode cX5_end 113 = .ok (.putfield 65, 3) := by decide +kernel
theorem dX5_end_116 : decode cX5_end 116 = .ok (.aload_n 0, 1) := by decide +kernel
theorem dX5_end_117 : decode cX5_end 117 = .ok (.getfield 65, 3) := by decide +kernel
theorem dX5_end_120 : decode cX5_end 120 = .ok (.iconst 1, 1) := by decide +kernel
theorem dX5_end_121 : decode cX5_end 121 = .ok (.isub, 1) := by decide +kernel
theorem dX5_end_122 : decode cX5_end 122 = .ok (.ireturn, 1) := by decide +kernel
theorem dX5_listed_0 : decode cX5_listed 0 = .ok (.aload_n 0, 1) := by decide +kernel
theorem dX5_listed_1 : decode cX5_listed 1 = .ok (.getfield 46, 3) := by decide +kernel
theorem dX5_listed_4 : decode cX5_listed 4 = .ok (.ifCond .eq 7, 3) := by decide +kernel
theorem dX5_listed_7 : decode cX5_listed 7 = .ok (.iload_n 1, 1) := by decide +kernel
theorem dX5_listed_8 : decode cX5_listed 8 = .ok (.ifCond .ge 5, 3) := by decide +kernel
theorem dX5_listed_11 : decode cX5_listed 11 = .ok (.iconst (-1), 1) := by decide +kernel
theorem dX5_listed_12 : decode cX5_listed 12 = .ok (.ireturn, 1) := by decide +kernel
theorem dX5_listed_13 : decode cX5_listed 13 = .ok (.iconst 0, 1) := by decide +kernel
theorem dX5_listed_14 : decode cX5_listed 14 = .ok (.istore_n 2, 1) := by decide +kernel
theorem dX5_listed_15 : decode cX5_listed 15 = .ok (.iconst 0, 1) := by decide +kernel
theorem dX5_listed_16 : decode cX5_listed 16 = .ok (.istore_n 3, 1) := by decide +kernel
theorem dX5_listed_17 : decode cX5_listed 17 = .ok (.iload_n 3, 1) := by decide +kernel
theorem dX5_listed_18 : decode cX5_listed 18 = .ok (.aload_n 0, 1) := by decide +kernel
theorem dX5_listed_19 : decode cX5_listed 19 = .ok (.getfield 65, 3) := by decide +kernel
theorem dX5_listed_22 : decode cX5_listed 22 = .ok (.if_icmp .ge 27, 3) := by decide +kernel
theorem dX5_listed_25 : decode cX5_listed 25 = .ok (.aload_n 0, 1) := by decide +kernel
theorem dX5_listed_26 : decode cX5_listed 26 = .ok (.iload_n 3, 1) := by decide +kernel
theorem dX5_listed_27 : decode cX5_listed 27 = .ok (.invokevirtual 196, 3) := by decide +kernel
theorem dX5_listed_30 : decode cX5_listed 30 = .ok (.ifCond .eq 13, 3) := by decide +kernel
theorem dX5_listed_33 : decode cX5_listed 33 = .ok (.iload_n 2, 1) := by decide +kernel
theorem dX5_listed_34 : decode cX5_listed 34 = .ok (.iload_n 1, 1) := by decide +kernel
theorem dX5_listed_35 : decode cX5_listed 35 = .ok (.if_icmp .ne 5, 3) := by decide +kernel
theorem dX5_listed_38 : decode cX5_listed 38 = .ok (.iload_n 3, 1) := by decide +kernel
theorem dX5_listed_39 : decode cX5_listed 39 = .ok (.ireturn, 1) := by decide +kernel
theorem dX5_listed_40 : decode cX5_listed 40 = .ok (.iinc 2 1, 3) := by decide +kernel
theorem dX5_listed_43 : decode cX5_listed 43 = .ok (.iinc 3 1, 3) := by decide +kernel
theorem dX5_listed_46 : decode cX5_listed 46 = .ok (.goto (-29), 3) := by decide +kernel
theorem dX5_listed_49 : decode cX5_listed 49 = .ok (.iconst (-1), 1) := by decide +kernel
theorem dX5_listed_50 : decode cX5_listed 50 = .ok (.ireturn, 1) := by decide +kernel
theorem dX5_protect_0 : decode cX5_protect 0 = .ok (.aload_n 0, 1) := by decide +kernel
theorem dX5_protect_1 : decode cX5_protect 1 = .ok (.iload_n 1, 1) := by decide +kernel
theorem dX5_protect_2 : decode cX5_protect 2 = .ok (.invokevirtual 95, 3) := by decide +kernel
theorem dX5_protect_5 : decode cX5_protect 5 = .ok (.ifCond .eq 13, 3) := by decide +kernel
theorem dX5_protect_8 : decode cX5_protect 8 = .ok (.iload_n 2, 1) := by decide +kernel
theorem dX5_protect_9 : decode cX5_protect 9 = .ok (.iconst 1, 1) := by decide +kernel
theorem dX5_protect_10 : decode cX5_protect 10 = .ok (.if_icmp .lt 8, 3) := by decide +kernel
theorem dX5_protect_13 : decode cX5_protect 13 = .ok (.iload_n 2, 1) := by decide +kernel
theorem dX5_protect_14 : decode cX5_protect 14 = .ok (.iconst 2, 1) := by decide +kernel
theorem dX5_protect_15 : decode cX5_protect 15 = .ok (.if_icmp .le 6, 3) := by decide +kernel
theorem dX5_protect_18 : decode cX5_protect 18 = .ok (.bipush (-2), 2) := by decide +kernel
theorem dX5_protect_20 : decode cX5_protect 20 = .ok (.ireturn, 1) := by decide +kernel
theorem dX5_protect_21 : decode cX5_protect 21 = .ok (.aload_n 0, 1) := by decide +kernel
theorem dX5_protect_22 : decode cX5_protect 22 = .ok (.getfield 46, 3) := by decide +kernel
theorem dX5_protect_25 : decode cX5_protect 25 = .ok (.ifCond .ne 6, 3) := by decide +kernel
theorem dX5_protect_28 : decode cX5_protect 28 = .ok (.bipush (-3), 2) := by decide +kernel
theorem dX5_protect_30 : decode cX5_protect 30 = .ok (.ireturn, 1) := by decide +kernel
theorem dX5_protect_31 : decode cX5_protect 31 = .ok (.aload_n 0, 1) := by decide +kernel
theorem dX5_protect_32 : decode cX5_protect 32 = .ok (.iload_n 1, 1) := by decide +kernel
theorem dX5_protect_33 : decode cX5_protect 33 = .ok (.invokevirtual 99, 3) := by decide +kernel
theorem dX5_protect_36 : decode cX5_protect 36 = .ok (.istore_n 3, 1) := by decide +kernel
theorem dX5_protect_37 : decode cX5_protect 37 = .ok (.iload_n 3, 1) := by decide +kernel
theorem dX5_protect_38 : decode cX5_protect 38 = .ok (.iconst (-1), 1) := by decide +kernel
theorem dX5_protect_39 : decode cX5_protect 39 = .ok (.if_icmp .eq 11, 3) := by decide +kernel
theorem dX5_protect_42 : decode cX5_protect 42 = .ok (.aload_n 0, 1) := by decide +kernel
theorem dX5_protect_43 : decode cX5_protect 43 = .ok (.iload_n 3, 1) := by decide +kernel
theorem dX5_protect_44 : decode cX5_protect 44 = .ok (.invokevirtual 102, 3) := by decide +kernel
theorem dX5_protect_47 : decode cX5_protect 47 = .ok (.ifCond .le 6, 3) := by decide +kernel
theorem dX5_protect_50 : decode cX5_protect 50 = .ok (.bipush (-3), 2) := by decide +kernel
theorem dX5_protect_52 : decode cX5_protect 52 = .ok (.ireturn, 1) := by decide +kernel
theorem dX5_protect_53 : decode cX5_protect 53 = .ok (.aload_n 0, 1) := by decide +kernel
theorem dX5_protect_54 : decode cX5_protect 54 = .ok (.invokevirtual 61, 3) := by decide +kernel
theorem dX5_protect_57 : decode cX5_protect 57 = .ok (.aload_n 0, 1) := by decide +kernel
theorem dX5_protect_58 : decode cX5_protect 58 = .ok (.invokevirtual 57, 3) := by decide +kernel
theorem dX5_protect_61 : decode cX5_protect 61 = .ok (.ifCond .eq 9, 3) := by decide +kernel
theorem dX5_protect_64 : decode cX5_protect 64 = .ok (.iload_n 2, 1) := by decide +kernel
theorem dX5_protect_65 : decode cX5_protect 65 = .ok (.iconst 5, 1) := by decide +kernel
theorem dX5_protect_66 : decode cX5_protect 66 = .ok (.iadd, 1) := by decide +kernel
theorem dX5_protect_67 : decode cX5_protect 67 = .ok (.goto 4, 3) := by decide +kernel
theorem dX5_protect_70 : decode cX5_protect 70 = .ok (.iload_n 2, 1) := by decide +kernel
theorem dX5_protect_71 : decode cX5_protect 71 = .ok (.if_icmp .ge 6, 3) := by decide +kernel
theorem dX5_protect_74 : decode cX5_protect 74 = .ok (.bipush (-4), 2) := by decide +kernel
theorem dX5_protect_76 : decode cX5_protect 76 = .ok (.ireturn, 1) := by decide +kernel
theorem dX5_protect_77 : decode cX5_protect 77 = .ok (.aload_n 0, 1) := by decide +kernel
theorem dX5_protect_78 : decode cX5_protect 78 = .ok (.iload_n 1, 1) := by decide +kernel
theorem dX5_protect_79 : decode cX5_protect 79 = .ok (.iload_n 3, 1) := by decide +kernel
theorem dX5_protect_80 : decode cX5_protect 80 = .ok (.iconst 0, 1) := by decide +kernel
theorem dX5_protect_81 : decode cX5_protect 81 = .ok (.invokevirtual 105, 3) := by decide +kernel
theorem dX5_protect_84 : decode cX5_protect 84 = .ok (.istore 4, 2) := by decide +kernel
theorem dX5_protect_86 : decode cX5_protect 86 = .ok (.iload_n 2, 1) := by decide +kernel
theorem dX5_protect_87 : decode cX5_protect 87 = .ok (.iconst 1, 1) := by decide +kernel
theorem dX5_protect_88 : decode cX5_protect 88 = .ok (.if_icmp .ne 8, 3) := by decide +kernel
theorem dX5_protect_91 : decode cX5_protect 91 = .ok (.iload 4, 2) := by decide +kernel
theorem dX5_protect_93 : decode cX5_protect 93 = .ok (.goto 10, 3) := by decide +kernel
theorem dX5_protect_96 : decode cX5_protect 96 = .ok (.aload_n 0, 1) := by decide +kernel
theorem dX5_protect_97 : decode cX5_protect 97 = .ok (.iload_n 1, 1) := by decide +kernel
theorem dX5_protect_98 : decode cX5_protect 98 = .ok (.iload_n 3, 1) := by decide +kernel
theorem dX5_protect_99 : decode cX5_protect 99 = .ok (.iconst 1, 1) := by decide +kernel
theorem dX5_protect_100 : decode cX5_protect 100 = .ok (.invokevirtual 105, 3) := by decide +kernel
theorem dX5_protect_103 : decode cX5_protect 103 = .ok (.ireturn, 1) := by decide +kernel
theorem dX5_repairAll_0 : decode cX5_repairAll 0 = .ok (.iconst 0, 1) := by decide +kernel
theorem dX5_repairAll_1 : decode cX5_repairAll 1 = .ok (.istore_n 1, 1) := by decide +kernel
theorem dX5_repairAll_2 : decode cX5_repairAll 2 = .ok (.iload_n 1, 1) := by decide +kernel
theorem dX5_repairAll_3 : decode cX5_repairAll 3 = .ok (.bipush 60, 2) := by decide +kernel
theorem dX5_repairAll_5 : decode cX5_repairAll 5 = .ok (.if_icmp .gt 44, 3) := by decide +kernel
theorem dX5_repairAll_8 : decode cX5_repairAll 8 = .ok (.aload_n 0, 1) := by decide +kernel
theorem dX5_repairAll_9 : decode cX5_repairAll 9 = .ok (.getfield 144, 3) := by decide +kernel
theorem dX5_repairAll_12 : decode cX5_repairAll 12 = .ok (.istore_n 2, 1) := by decide +kernel
theorem dX5_repairAll_13 : decode cX5_repairAll 13 = .ok (.iconst 0, 1) := by decide +kernel
theorem dX5_repairAll_14 : decode cX5_repairAll 14 = .ok (.istore_n 3, 1) := by decide +kernel
theorem dX5_repairAll_15 : decode cX5_repairAll 15 = .ok (.iload_n 3, 1) := by decide +kernel
theorem dX5_repairAll_16 : decode cX5_repairAll 16 = .ok (.aload_n 0, 1) := by decide +kernel
theorem dX5_repairAll_17 : decode cX5_repairAll 17 = .ok (.getfield 65, 3) := by decide +kernel
theorem dX5_repairAll_20 : decode cX5_repairAll 20 = .ok (.if_icmp .ge 14, 3) := by decide +kernel
theorem dX5_repairAll_23 : decode cX5_repairAll 23 = .ok (.aload_n 0, 1) := by decide +kernel
theorem dX5_repairAll_24 : decode cX5_repairAll 24 = .ok (.iload_n 3, 1) := by decide +kernel
theorem dX5_repairAll_25 : decode cX5_repairAll 25 = .ok (.invokevirtual 247, 3) := by decide +kernel
theorem dX5_repairAll_28 : decode cX5_repairAll 28 = .ok (.iinc 3 1, 3) := by decide +kernel
theorem dX5_repairAll_31 : decode cX5_repairAll 31 = .ok (.goto (-16), 3) := by decide +kernel
theorem dX5_repairAll_34 : decode cX5_repairAll 34 = .ok (.aload_n 0, 1) := by decide +kernel
theorem dX5_repairAll_35 : decode cX5_repairAll 35 = .ok (.getfield 144, 3) := by decide +kernel
theorem dX5_repairAll_38 : decode cX5_repairAll 38 = .ok (.iload_n 2, 1) := by decide +kernel
theorem dX5_repairAll_39 : decode cX5_repairAll 39 = .ok (.if_icmp .ne 4, 3) := by decide +kernel
theorem dX5_repairAll_42 : decode cX5_repairAll 42 = .ok (.return_, 1) := by decide +kernel
theorem dX5_repairAll_43 : decode cX5_repairAll 43 = .ok (.iinc 1 1, 3) := by decide +kernel
theorem dX5_repairAll_46 : decode cX5_repairAll 46 = .ok (.goto (-44), 3) := by decide +kernel
theorem dX5_repairAll_49 : decode cX5_repairAll 49 = .ok (.return_, 1) := by decide +kernel
end
section
theorem dX5_start_0 : decode cX5_start 0 = .ok (.aload_n 0, 1) := by decide +kernel
theorem dX5_start_1 : decode cX5_start 1 = .ok (.getfield 46, 3) := by decide +kernel
theorem dX5_start_4 : decode cX5_start 4 = .ok (.ifCond .eq 6, 3) := by decide +kernel
theorem dX5_start_7 : decode cX5_start 7 = .ok (.bipush (-3), 2) := by decide +kernel
theorem dX5_start_9 : decode cX5_start 9 = .ok (.ireturn, 1) := by decide +kernel
theorem dX5_start_10 : decode cX5_start 10 = .ok (.aload_n 0, 1) := by decide +kernel
theorem dX5_start_11 : decode cX5_start 11 = .ok (.iconst 1, 1) := by decide +kernel
theorem dX5_start_12 : decode cX5_start 12 = .ok (.putfield 46, 3) := by decide +kernel
theorem dX5_start_15 : decode cX5_start 15 = .ok (.aload_n 0, 1) := by decide +kernel
theorem dX5_start_16 : decode cX5_start 16 = .ok (.invokevirtual 135, 3) := by decide +kernel
theorem dX5_start_19 : decode cX5_start 19 = .ok (.aload_n 0, 1) := by decide +kernel
theorem dX5_start_20 : decode cX5_start 20 = .ok (.invokevirtual 138, 3) := by decide +kernel
theorem dX5_start_23 : decode cX5_start 23 = .ok (.aload_n 0, 1) := by decide +kernel
theorem dX5_start_24 : decode cX5_start 24 = .ok (.invokevirtual 141, 3) := by decide +kernel
theorem dX5_start_27 : decode cX5_start 27 = .ok (.aload_n 0, 1) := by decide +kernel
theorem dX5_start_28 : decode cX5_start 28 = .ok (.iconst 0, 1) := by decide +kernel
theorem dX5_start_29 : decode cX5_start 29 = .ok (.putfield 144, 3) := by decide +kernel
theorem dX5_start_32 : decode cX5_start 32 = .ok (.aload_n 0, 1) := by decide +kernel
theorem dX5_start_33 : decode cX5_start 33 = .ok (.invokevirtual 147, 3) := by decide +kernel
theorem dX5_start_36 : decode cX5_start 36 = .ok (.aload_n 0, 1) := by decide +kernel
theorem dX5_start_37 : decode cX5_start 37 = .ok (.getfield 21, 3) := by decide +kernel
theorem dX5_start_40 : decode cX5_start 40 = .ok (.invokevirtual 122, 3) := by decide +kernel
theorem dX5_start_43 : decode cX5_start 43 = .ok (.aload_n 0, 1) := by decide +kernel
theorem dX5_start_44 : decode cX5_start 44 = .ok (.getfield 65, 3) := by decide +kernel
theorem dX5_start_47 : decode cX5_start 47 = .ok (.ireturn, 1) := by decide +kernel
end
section
theorem dX6_begin_0 : decode cX6_begin 0 = .ok (.iconst 0, 1) := by decide +kernel
theorem dX6_begin_1 : decode cX6_begin 1 = .ok (.istore 5, 2) := by decide +kernel
theorem dX6_begin_3 : decode cX6_begin 3 = .ok (.iload 5, 2) := by decide +kernel
theorem dX6_begin_5 : decode cX6_begin 5 = .ok (.bipush 32, 2) := by decide +kernel
theorem dX6_begin_7 : decode cX6_begin 7 = .ok (.if_icmp .ge 17, 3) := by decide +kernel
theorem dX6_begin_10 : decode cX6_begin 10 = .ok (.aload_n 0, 1) := by decide +kernel
theorem dX6_begin_11 : decode cX6_begin 11 = .ok (.getfield 40, 3) := by decide +kernel
theorem dX6_begin_14 : decode cX6_begin 14 = .ok (.iload 5, 2) := by decide +kernel
theorem dX6_begin_16 : decode cX6_begin 16 = .ok (.iconst 0, 1) := by decide +kernel
theorem dX6_begin_17 : decode cX6_begin 17 = .ok (.iastore, 1) := by decide +kernel
theorem dX6_begin_18 : decode cX6_begin 18 = .ok (.iinc 5 1, 3) := by decide +kernel
theorem dX6_begin_21 : decode cX6_begin 21 = .ok (.goto (-18), 3) := by decide +kernel
theorem dX6_begin_24 : decode cX6_begin 24 = .ok (.aload_n 0, 1) := by decide +kernel
theorem dX6_begin_25 : decode cX6_begin 25 = .ok (.getfield 40, 3) := by decide +kernel
theorem dX6_begin_28 : decode cX6_begin 28 = .ok (.iconst 0, 1) := by decide +kernel
theorem dX6_begin_29 : decode cX6_begin 29 = .ok (.iload_n 1, 1) := by decide +kernel
theorem dX6_begin_30 : decode cX6_begin 30 = .ok (.iastore, 1) := by decide +kernel
theorem dX6_begin_31 : decode cX6_begin 31 = .ok (.aload_n 0, 1) := by decide +kernel
theorem dX6_begin_32 : decode cX6_begin 32 = .ok (.getfield 40, 3) := by decide +kernel
theorem dX6_begin_35 : decode cX6_begin 35 = .ok (.iconst 1, 1) := by decide +kernel
theorem dX6_begin_36 : decode cX6_begin 36 = .ok (.iload_n 2, 1) := by decide +kernel
theorem dX6_begin_37 : decode cX6_begin 37 = .ok (.iastore, 1) := by decide +kernel
theorem dX6_begin_38 : decode cX6_begin 38 = .ok (.aload_n 0, 1) := by decide +kernel
theorem dX6_begin_39 : decode cX6_begin 39 = .ok (.getfield 40, 3) := by decide +kernel
theorem dX6_begin_42 : decode cX6_begin 42 = .ok (.iconst 2, 1) := by decide +kernel
theorem dX6_begin_43 : decode cX6_begin 43 = .ok (.iload_n 3, 1) := by decide +kernel
theorem dX6_begin_44 : decode cX6_begin 44 = .ok (.iastore, 1) := by decide +kernel
theorem dX6_begin_45 : decode cX6_begin 45 = .ok (.aload_n 0, 1) := by decide +kernel
theorem dX6_begin_46 : decode cX6_begin 46 = .ok (.getfield 40, 3) := by decide +kernel
theorem dX6_begin_49 : decode cX6_begin 49 = .ok (.iconst 3, 1) := by decide +kernel
theorem dX6_begin_50 : decode cX6_begin 50 = .ok (.iload 4, 2) := by decide +kernel
theorem dX6_begin_52 : decode cX6_begin 52 = .ok (.iastore, 1) := by decide +kernel
theorem dX6_begin_53 : decode cX6_begin 53 = .ok (.return_, 1) := by decide +kernel
theorem dX6_blockAt_0 : decode cX6_blockAt 0 = .ok (.aload_n 0, 1) := by decide +kernel
theorem dX6_blockAt_1 : decode cX6_blockAt 1 = .ok (.getfield 7, 3) := by decide +kernel
theorem dX6_blockAt_4 : decode cX6_blockAt 4 = .ok (.bipush 32, 2) := by decide +kernel
theorem dX6_blockAt_6 : decode cX6_blockAt 6 = .ok (.iload_n 1, 1) := by decide +kernel
theorem dX6_blockAt_7 : decode cX6_blockAt 7 = .ok (.imul, 1) := by decide +kernel
theorem dX6_blockAt_8 : decode cX6_blockAt 8 = .ok (.iconst 4, 1) := by decide +kernel
theorem dX6_blockAt_9 : decode cX6_blockAt 9 = .ok (.iadd, 1) := by decide +kernel
theorem dX6_blockAt_10 : decode cX6_blockAt 10 = .ok (.iload_n 2, 1) := by decide +kernel
theorem dX6_blockAt_11 : decode cX6_blockAt 11 = .ok (.iadd, 1) := by decide +kernel
theorem dX6_blockAt_12 : decode cX6_blockAt 12 = .ok (.iaload, 1) := by decide +kernel
theorem dX6_blockAt_13 : decode cX6_blockAt 13 = .ok (.ireturn, 1) := by decide +kernel
theorem dX6_generationAt_0 : decode cX6_generationAt 0 = .ok (.bipush 32, 2) := by decide +kernel
theorem dX6_generationAt_2 : decode cX6_generationAt 2 = .ok (.iload_n 1, 1) := by decide +kernel
theorem dX6_generationAt_3 : decode cX6_generationAt 3 = .ok (.imul, 1) := by decide +kernel
theorem dX6_generationAt_4 : decode cX6_generationAt 4 = .ok (.iconst 4, 1) := by decide +kernel
theorem dX6_generationAt_5 : decode cX6_generationAt 5 = .ok (.iadd, 1) := by decide +kernel
theorem dX6_generationAt_6 : decode cX6_generationAt 6 = .ok (.istore_n 2, 1) := by decide +kernel
theorem dX6_generationAt_7 : decode cX6_generationAt 7 = .ok (.aload_n 0, 1) := by decide +kernel
theorem dX6_generationAt_8 : decode cX6_generationAt 8 = .ok (.getfield 7, 3) := by decide +kernel
theorem dX6_generationAt_11 : decode cX6_generationAt 11 = .ok (.iload_n 2, 1) := by decide +kernel
theorem dX6_generationAt_12 : decode cX6_generationAt 12 = .ok (.iaload, 1) := by decide +kernel
theorem dX6_generationAt_13 : decode cX6_generationAt 13 = .ok (.bipush 24, 2) := by decide +kernel
theorem dX6_generationAt_15 : decode cX6_generationAt 15 = .ok (.ishl, 1) := by decide +kernel
theorem dX6_generationAt_16 : decode cX6_generationAt 16 = .ok (.aload_n 0, 1) := by decide +kernel
theorem dX6_generationAt_17 : decode cX6_generationAt 17 = .ok (.getfield 7, 3) := by decide +kernel
theorem dX6_generationAt_20 : decode cX6_generationAt 20 = .ok (.iload_n 2, 1) := by decide +kernel
theorem dX6_generationAt_21 : decode cX6_generationAt 21 = .ok (.iconst 1, 1) := by decide +kernel
theorem dX6_generationAt_22 : decode cX6_generationAt 22 = .ok (.iadd, 1) := by decide +kernel
theorem dX6_generationAt_23 : decode cX6_generationAt 23 = .ok (.iaload, 1) := by decide +kernel
theorem dX6_generationAt_24 : decode cX6_generationAt 24 = .ok (.bipush 16, 2) := by decide +kernel
theorem dX6_generationAt_26 : decode cX6_generationAt 26 = .ok (.ishl, 1) := by decide +kernel
theorem dX6_generationAt_27 : decode cX6_generationAt 27 = .ok (.ior, 1) := by decide +kernel
theorem dX6_generationAt_28 : decode cX6_generationAt 28 = .ok (.aload_n 0, 1) := by decide +kernel
theorem dX6_generationAt_29 : decode cX6_generationAt 29 = .ok (.getfield 7, 3) := by decide +kernel
theorem dX6_generationAt_32 : decode cX6_generationAt 32 = .ok (.iload_n 2, 1) := by decide +kernel
theorem dX6_generationAt_33 : decode cX6_generationAt 33 = .ok (.iconst 2, 1) := by decide +kernel
theorem dX6_generationAt_34 : decode cX6_generationAt 34 = .ok (.iadd, 1) := by decide +kernel
theorem dX6_generationAt_35 : decode cX6_generationAt 35 = .ok (.iaload, 1) := by decide +kernel
theorem dX6_generationAt_36 : decode cX6_generationAt 36 = .ok (.bipush 8, 2) := by decide +kernel
theorem dX6_generationAt_38 : decode cX6_generationAt 38 = .ok (.ishl, 1) := by decide +kernel
theorem dX6_generationAt_39 : decode cX6_generationAt 39 = .ok (.ior, 1) := by decide +kernel
theorem dX6_generationAt_40 : decode cX6_generationAt 40 = .ok (.aload_n 0, 1) := by decide +kernel
theorem dX6_generationAt_41 : decode cX6_generationAt 41 = .ok (.getfield 7, 3) := by decide +kernel
theorem dX6_generationAt_44 : decode cX6_generationAt 44 = .ok (.iload_n 2, 1) := by decide +kernel
theorem dX6_generationAt_45 : decode cX6_generationAt 45 = .ok (.iconst 3, 1) := by decide +kernel
theorem dX6_generationAt_46 : decode cX6_generationAt 46 = .ok (.iadd, 1) := by decide +kernel
theorem dX6_generationAt_47 : decode cX6_generationAt 47 = .ok (.iaload, 1) := by decide +kernel
theorem dX6_generationAt_48 : decode cX6_generationAt 48 = .ok (.ior, 1) := by decide +kernel
theorem dX6_generationAt_49 : decode cX6_generationAt 49 = .ok (.ireturn, 1) := by decide +kernel
theorem dX6_in_0 : decode cX6_in 0 = .ok (.iload_n 0, 1) := by decide +kernel
theorem dX6_in_1 : decode cX6_in 1 = .ok (.iload_n 1, 1) := by decide +kernel
theorem dX6_in_2 : decode cX6_in 2 = .ok (.if_icmp .lt 12, 3) := by decide +kernel
theorem dX6_in_5 : decode cX6_in 5 = .ok (.iload_n 0, 1) := by decide +kernel
theorem dX6_in_6 : decode cX6_in 6 = .ok (.iload_n 2, 1) := by decide +kernel
theorem dX6_in_7 : decode cX6_in 7 = .ok (.if_icmp .gt 7, 3) := by decide +kernel
theorem dX6_in_10 : decode cX6_in 10 = .ok (.iconst 1, 1) := by decide +kernel
theorem dX6_in_11 : decode cX6_in 11 = .ok (.goto 4, 3) := by decide +kernel
theorem dX6_in_14 : decode cX6_in 14 = .ok (.iconst 0, 1) := by decide +kernel
theorem dX6_in_15 : decode cX6_in 15 = .ok (.ireturn, 1) := by decide +kernel
theorem dX6_init_0 : decode cX6_init 0 = .ok (.aload_n 0, 1) := by decide +kernel
theorem dX6_init_1 : decode cX6_init 1 = .ok (.invokespecial 1, 3) := by decide +kernel
theorem dX6_init_4 : decode cX6_init 4 = .ok (.aload_n 0, 1) := by decide +kernel
theorem dX6_init_5 : decode cX6_init 5 = .ok (.sipush 1920, 3) := by decide +kernel
theorem dX6_init_8 : decode cX6_init 8 = .ok (.newarray .int, 2) := by decide +kernel
theorem dX6_init_10 : decode cX6_init 10 = .ok (.putfield 7, 3) := by decide +kernel
theorem dX6_init_13 : decode cX6_init 13 = .ok (.aload_n 0, 1) := by decide +kernel
theorem dX6_init_14 : decode cX6_init 14 = .ok (.bipush 60, 2) := by decide +kernel
theorem dX6_init_16 : decode cX6_init 16 = .ok (.newarray .boolean, 2) := by decide +kernel
theorem dX6_init_18 : decode cX6_init 18 = .ok (.putfield 13, 3) := by decide +kernel
theorem dX6_init_21 : decode cX6_init 21 = .ok (.aload_n 0, 1) := by decide +kernel
theorem dX6_init_22 : decode cX6_init 22 = .ok (.iconst 1, 1) := by decide +kernel
theorem dX6_init_23 : decode cX6_init 23 = .ok (.putfield 17, 3) := by decide +kernel
theorem dX6_init_26 : decode cX6_init 26 = .ok (.aload_n 0, 1) := by decide +kernel
theorem dX6_init_27 : decode cX6_init 27 = .ok (.iconst 2, 1) := by decide +kernel
theorem dX6_init_28 : decode cX6_init 28 = .ok (.putfield 21, 3) := by decide +kernel
theorem dX6_init_31 : decode cX6_init 31 = .ok (.aload_n 0, 1) := by decide +kernel
theorem dX6_init_32 : decode cX6_init 32 = .ok (.iconst (-1), 1) := by decide +kernel
theorem dX6_init_33 : decode cX6_init 33 = .ok (.putfield 25, 3) := by decide +kernel
theorem dX6_init_36 : decode cX6_init 36 = .ok (.aload_n 0, 1) := by decide +kernel
theorem dX6_init_37 : decode cX6_init 37 = .ok (.bipush 96, 2) := by decide +kernel
theorem dX6_init_39 : decode cX6_init 39 = .ok (.newarray .int, 2) := by decide +kernel
theorem dX6_init_41 : decode cX6_init 41 = .ok (.putfield 28, 3) := by decide +kernel
theorem dX6_init_44 : decode cX6_init 44 = .ok (.aload_n 0, 1) := by decide +kernel
theorem dX6_init_45 : decode cX6_init 45 = .ok (.bipush 64, 2) := by decide +kernel
theorem dX6_init_47 : decode cX6_init 47 = .ok (.newarray .int, 2) := by decide +kernel
theorem dX6_init_49 : decode cX6_init 49 = .ok (.putfield 31, 3) := by decide +kernel
theorem dX6_init_52 : decode cX6_init 52 = .ok (.aload_n 0, 1) := by decide +kernel
theorem dX6_init_53 : decode cX6_init 53 = .ok (.sipush 2048, 3) := by decide +kernel
theorem dX6_init_56 : decode cX6_init 56 = .ok (.newarray .int, 2) := by decide +kernel
theorem dX6_init_58 : decode cX6_init 58 = .ok (.putfield 34, 3) := by decide +kernel
theorem dX6_init_61 : decode cX6_init 61 = .ok (.aload_n 0, 1) := by decide +kernel
theorem dX6_init_62 : decode cX6_init 62 = .ok (.bipush 64, 2) := by decide +kernel
theorem dX6_init_64 : decode cX6_init 64 = .ok (.newarray .boolean, 2) := by decide +kernel
theorem dX6_init_66 : decode cX6_init 66 = .ok (.putfield 37, 3) := by decide +kernel
theorem dX6_init_69 : decode cX6_init 69 = .ok (.aload_n 0, 1) := by decide +kernel
theorem dX6_init_70 : decode cX6_init 70 = .ok (.bipush 32, 2) := by decide +kernel
theorem dX6_init_72 : decode cX6_init 72 = .ok (.newarray .int, 2) := by decide +kernel
theorem dX6_init_74 : decode cX6_init 74 = .ok (.putfield 40, 3) := by decide +kernel
theorem dX6_init_77 : decode cX6_init 77 = .ok (.aload_n 0, 1) := by decide +kernel
theorem dX6_init_78 : decode cX6_init 78 = .ok (.iconst 4, 1) := by decide +kernel
theorem dX6_init_79 : decode cX6_init 79 = .ok (.newarray .int, 2) := by decide +kernel
theorem dX6_init_81 : decode cX6_init 81 = .ok (.putfield 43, 3) := by decide +kernel
theorem dX6_init_84 : decode cX6_init 84 = .ok (.aload_n 0, 1) := by decide +kernel
theorem dX6_init_85 : decode cX6_init 85 = .ok (.iconst 4, 1) := by decide +kernel
theorem dX6_init_86 : decode cX6_init 86 = .ok (.newarray .int, 2) := by decide +kernel
theorem dX6_init_88 : decode cX6_init 88 = .ok (.putfield 46, 3) := by decide +kernel
theorem dX6_init_91 : decode cX6_init 91 = .ok (.aload_n 0, 1) := by decide +kernel
theorem dX6_init_92 : decode cX6_init 92 = .ok (.iconst 4, 1) := by decide +kernel
theorem dX6_init_93 : decode cX6_init 93 = .ok (.newarray .int, 2) := by decide +kernel
theorem dX6_init_95 : decode cX6_init 95 = .ok (.putfield 49, 3) := by decide +kernel
theorem dX6_init_98 : decode cX6_init 98 = .ok (.aload_n 0, 1) := by decide +kernel
theorem dX6_init_99 : decode cX6_init 99 = .ok (.iconst 4, 1) := by decide +kernel
theorem dX6_init_100 : decode cX6_init 100 = .ok (.newarray .int, 2) := by decide +kernel
theorem dX6_init_102 : decode cX6_init 102 = .ok (.putfield 52, 3) := by decide +kernel
theorem dX6_init_105 : decode cX6_init 105 = .ok (.aload_n 0, 1) := by decide +kernel
theorem dX6_init_106 : decode cX6_init 106 = .ok (.bipush 24, 2) := by decide +kernel
theorem dX6_init_108 : decode cX6_init 108 = .ok (.newarray .int, 2) := by decide +kernel
theorem dX6_init_110 : decode cX6_init 110 = .ok (.putfield 55, 3) := by decide +kernel
theorem dX6_init_113 : decode cX6_init 113 = .ok (.aload_n 0, 1) := by decide +kernel
theorem dX6_init_114 : decode cX6_init 114 = .ok (.bipush 24, 2) := by decide +kernel
theorem dX6_init_116 : decode cX6_init 116 = .ok (.newarray .int, 2) := by decide +kernel
theorem dX6_init_118 : decode cX6_init 118 = .ok (.putfield 58, 3) := by decide +kernel
theorem dX6_init_121 : decode cX6_init 121 = .ok (.aload_n 0, 1) := by decide +kernel
theorem dX6_init_122 : decode cX6_init 122 = .ok (.bipush 24, 2) := by decide +kernel
theorem dX6_init_124 : decode cX6_init 124 = .ok (.newarray .int, 2) := by decide +kernel
theorem dX6_init_126 : decode cX6_init 126 = .ok (.putfield 61, 3) := by decide +kernel
theorem dX6_init_129 : decode cX6_init 129 = .ok (.aload_n 0, 1) := by decide +kernel
theorem dX6_init_130 : decode cX6_init 130 = .ok (.bipush 24, 2) := by decide +kernel
theorem dX6_init_132 : decode cX6_init 132 = .ok (.newarray .int, 2) := by decide +kernel
theorem dX6_init_134 : decode cX6_init 134 = .ok (.putfield 64, 3) := by decide +kernel
theorem dX6_init_137 : decode cX6_init 137 = .ok (.aload_n 0, 1) := by decide +kernel
theorem dX6_init_138 : decode cX6_init 138 = .ok (.iload_n 1, 1) := by decide +kernel
theorem dX6_init_139 : decode cX6_init 139 = .ok (.bipush 8, 2) := by decide +kernel
theorem dX6_init_141 : decode cX6_init 141 = .ok (.if_icmp .ge 8, 3) := by decide +kernel
theorem dX6_init_144 : decode cX6_init 144 = .ok (.bipush 8, 2) := by decide +kernel
theorem dX6_init_146 : decode cX6_init 146 = .ok (.goto 15, 3) := by decide +kernel
theorem dX6_init_149 : decode cX6_init 149 = .ok (.iload_n 1, 1) := by decide +kernel
theorem dX6_init_150 : decode cX6_init 150 = .ok (.bipush 60, 2) := by decide +kernel
theorem dX6_init_152 : decode cX6_init 152 = .ok (.if_icmp .le 8, 3) := by decide +kernel
theorem dX6_init_155 : decode cX6_init 155 = .ok (.bipush 60, 2) := by decide +kernel
theorem dX6_init_157 : decode cX6_init 157 = .ok (.goto 4, 3) := by decide +kernel
theorem dX6_init_160 : decode cX6_init 160 = .ok (.iload_n 1, 1) := by decide +kernel
theorem dX6_init_161 : decode cX6_init 161 = .ok (.putfield 67, 3) := by decide +kernel
theorem dX6_init_164 : decode cX6_init 164 = .ok (.return_, 1) := by decide +kernel
theorem dX6_isInLog_0 : decode cX6_isInLog 0 = .ok (.iload_n 1, 1) := by decide +kernel
theorem dX6_isInLog_1 : decode cX6_isInLog 1 = .ok (.iconst 2, 1) := by decide +kernel
theorem dX6_isInLog_2 : decode cX6_isInLog 2 = .ok (.if_icmp .lt 15, 3) := by decide +kernel
theorem dX6_isInLog_5 : decode cX6_isInLog 5 = .ok (.iload_n 1, 1) := by decide +kernel
theorem dX6_isInLog_6 : decode cX6_isInLog 6 = .ok (.aload_n 0, 1) := by decide +kernel
theorem dX6_isInLog_7 : decode cX6_isInLog 7 = .ok (.getfield 21, 3) := by decide +kernel
theorem dX6_isInLog_10 : decode cX6_isInLog 10 = .ok (.if_icmp .ge 7, 3) := by decide +kernel
theorem dX6_isInLog_13 : decode cX6_isInLog 13 = .ok (.iconst 1, 1) := by decide +kernel
theorem dX6_isInLog_14 : decode cX6_isInLog 14 = .ok (.goto 4, 3) := by decide +kernel
theorem dX6_isInLog_17 : decode cX6_isInLog 17 = .ok (.iconst 0, 1) := by decide +kernel
theorem dX6_isInLog_18 : decode cX6_isInLog 18 = .ok (.ireturn, 1) := by decide +kernel
theorem dX6_sizeAt_0 : decode cX6_sizeAt 0 = .ok (.aload_n 0, 1) := by decide +kernel
theorem dX6_sizeAt_1 : decode cX6_sizeAt 1 = .ok (.getfield 7, 3) := by decide +kernel
theorem dX6_sizeAt_4 : decode cX6_sizeAt 4 = .ok (.bipush 32, 2) := by decide +kernel
theorem dX6_sizeAt_6 : decode cX6_sizeAt 6 = .ok (.iload_n 1, 1) := by decide +kernel
theorem dX6_sizeAt_7 : decode cX6_sizeAt 7 = .ok (.imul, 1) := by decide +kernel
theorem dX6_sizeAt_8 : decode cX6_sizeAt 8 = .ok (.iconst 3, 1) := by decide +kernel
theorem dX6_sizeAt_9 : decode cX6_sizeAt 9 = .ok (.iadd, 1) := by decide +kernel
theorem dX6_sizeAt_10 : decode cX6_sizeAt 10 = .ok (.iaload, 1) := by decide +kernel
theorem dX6_sizeAt_11 : decode cX6_sizeAt 11 = .ok (.ireturn, 1) := by decide +kernel
theorem dX6_sumOf_0 : decode cX6_sumOf 0 = .ok (.iconst 0, 1) := by decide +kernel
theorem dX6_sumOf_1 : decode cX6_sumOf 1 = .ok (.istore_n 2, 1) := by decide +kernel
theorem dX6_sumOf_2 : decode cX6_sumOf 2 = .ok (.iconst 0, 1) := by decide +kernel
theorem dX6_sumOf_3 : decode cX6_sumOf 3 = .ok (.istore_n 3, 1) := by decide +kernel
theorem dX6_sumOf_4 : decode cX6_sumOf 4 = .ok (.iload_n 3, 1) := by decide +kernel
theorem dX6_sumOf_5 : decode cX6_sumOf 5 = .ok (.bipush 28, 2) := by decide +kernel
theorem dX6_sumOf_7 : decode cX6_sumOf 7 = .ok (.if_icmp .ge 33, 3) := by decide +kernel
theorem dX6_sumOf_10 : decode cX6_sumOf 10 = .ok (.iload_n 2, 1) := by decide +kernel
theorem dX6_sumOf_11 : decode cX6_sumOf 11 = .ok (.aload_n 0, 1) := by decide +kernel
theorem dX6_sumOf_12 : decode cX6_sumOf 12 = .ok (.iload_n 1, 1) := by decide +kernel
theorem dX6_sumOf_13 : decode cX6_sumOf 13 = .ok (.iload_n 3, 1) := by decide +kernel
theorem dX6_sumOf_14 : decode cX6_sumOf 14 = .ok (.iadd, 1) := by decide +kernel
theorem dX6_sumOf_15 : decode cX6_sumOf 15 = .ok (.iaload, 1) := by decide +kernel
theorem dX6_sumOf_16 : decode cX6_sumOf 16 = .ok (.ixor, 1) := by decide +kernel
theorem dX6_sumOf_17 : decode cX6_sumOf 17 = .ok (.istore 4, 2) := by decide +kernel
theorem dX6_sumOf_19 : decode cX6_sumOf 19 = .ok (.iload 4, 2) := by decide +kernel
theorem dX6_sumOf_21 : decode cX6_sumOf 21 = .ok (.bipush 7, 2) := by decide +kernel
theorem dX6_sumOf_23 : decode cX6_sumOf 23 = .ok (.ishl, 1) := by decide +kernel
theorem dX6_sumOf_24 : decode cX6_sumOf 24 = .ok (.iload 4, 2) := by decide +kernel
theorem dX6_sumOf_26 : decode cX6_sumOf 26 = .ok (.bipush 25, 2) := by decide +kernel
theorem dX6_sumOf_28 : decode cX6_sumOf 28 = .ok (.iushr, 1) := by decide +kernel
theorem dX6_sumOf_29 : decode cX6_sumOf 29 = .ok (.ior, 1) := by decide +kernel
theorem dX6_sumOf_30 : decode cX6_sumOf 30 = .ok (.ldc 77, 2) := by decide +kernel
theorem dX6_sumOf_32 : decode cX6_sumOf 32 = .ok (.imul, 1) := by decide +kernel
theorem dX6_sumOf_33 : decode cX6_sumOf 33 = .ok (.istore_n 2, 1) := by decide +kernel
theorem dX6_sumOf_34 : decode cX6_sumOf 34 = .ok (.iinc 3 1, 3) := by decide +kernel
theorem dX6_sumOf_37 : decode cX6_sumOf 37 = .ok (.goto (-33), 3) := by decide +kernel
theorem dX6_sumOf_40 : decode cX6_sumOf 40 = .ok (.iload_n 2, 1) := by decide +kernel
theorem dX6_sumOf_41 : decode cX6_sumOf 41 = .ok (.ireturn, 1) := by decide +kernel
theorem dX6_told_0 : decode cX6_told 0 = .ok (.aload_n 0, 1) := by decide +kernel
theorem dX6_told_1 : decode cX6_told 1 = .ok (.iconst 0, 1) := by decide +kernel
theorem dX6_told_2 : decode cX6_told 2 = .ok (.putfield 70, 3) := by decide +kernel
theorem dX6_told_5 : decode cX6_told 5 = .ok (.iload_n 1, 1) := by decide +kernel
theorem dX6_told_6 : decode cX6_told 6 = .ok (.tableswitch 156 0 9 #[54, 67, 72, 77, 82, 87, 92, 97, 114, 151], 54) := by decide +kernel
theorem dX6_told_60 : decode cX6_told 60 = .ok (.aload_n 0, 1) := by decide +kernel
theorem dX6_told_61 : decode cX6_told 61 = .ok (.getfield 17, 3) := by decide +kernel
theorem dX6_told_64 : decode cX6_told 64 = .ok (.ifCond .eq 7, 3) := by decide +kernel
theorem dX6_told_67 : decode cX6_told 67 = .ok (.iconst 1, 1) := by decide +kernel
theorem dX6_told_68 : decode cX6_told 68 = .ok (.goto 4, 3) := by decide +kernel
theorem dX6_told_71 : decode cX6_told 71 = .ok (.iconst 0, 1) := by decide +kernel
theorem dX6_told_72 : decode cX6_told 72 = .ok (.ireturn, 1) := by decide +kernel
theorem dX6_told_73 : decode cX6_told 73 = .ok (.aload_n 0, 1) := by decide +kernel
theorem dX6_told_74 : decode cX6_told 74 = .ok (.getfield 21, 3) := by decide +kernel
theorem dX6_told_77 : decode cX6_told 77 = .ok (.ireturn, 1) := by decide +kernel
theorem dX6_told_78 : decode cX6_told 78 = .ok (.aload_n 0, 1) := by decide +kernel
theorem dX6_told_79 : decode cX6_told 79 = .ok (.getfield 100, 3) := by decide +kernel
theorem dX6_told_82 : decode cX6_told 82 = .ok (.ireturn, 1) := by decide +kernel
theorem dX6_told_83 : decode cX6_told 83 = .ok (.aload_n 0, 1) := by decide +kernel
theorem dX6_told_84 : decode cX6_told 84 = .ok (.getfield 153, 3) := by decide +kernel
theorem dX6_told_87 : decode cX6_told 87 = .ok (.ireturn, 1) := by decide +kernel
theorem dX6_told_88 : decode cX6_told 88 = .ok (.aload_n 0, 1) := by decide +kernel
theorem dX6_told_89 : decode cX6_told 89 = .ok (.getfield 93, 3) := by decide +kernel
theorem dX6_told_92 : decode cX6_told 92 = .ok (.ireturn, 1) := by decide +kernel
theorem dX6_told_93 : decode cX6_told 93 = .ok (.aload_n 0, 1) := by decide +kernel
theorem dX6_told_94 : decode cX6_told 94 = .ok (.getfield 165, 3) := by decide +kernel
theorem dX6_told_97 : decode cX6_told 97 = .ok (.ireturn, 1) := by decide +kernel
theorem dX6_told_98 : decode cX6_told 98 = .ok (.aload_n 0, 1) := by decide +kernel
theorem dX6_told_99 : decode cX6_told 99 = .ok (.getfield 125, 3) := by decide +kernel
theorem dX6_told_102 : decode cX6_told 102 = .ok (.ireturn, 1) := by decide +kernel
theorem dX6_told_103 : decode cX6_told 103 = .ok (.aload_n 0, 1) := by decide +kernel
theorem dX6_told_104 : decode cX6_told 104 = .ok (.getfield 25, 3) := by decide +kernel
theorem dX6_told_107 : decode cX6_told 107 = .ok (.iconst (-1), 1) := by decide +kernel
theorem dX6_told_108 : decode cX6_told 108 = .ok (.if_icmp .ne 7, 3) := by decide +kernel
theorem dX6_told_111 : decode cX6_told 111 = .ok (.iconst (-1), 1) := by decide +kernel
theorem dX6_told_112 : decode cX6_told 112 = .ok (.goto 7, 3) := by decide +kernel
theorem dX6_told_115 : decode cX6_told 115 = .ok (.aload_n 0, 1) := by decide +kernel
theorem dX6_told_116 : decode cX6_told 116 = .ok (.getfield 116, 3) := by decide +kernel
theorem dX6_told_119 : decode cX6_told 119 = .ok (.ireturn, 1) := by decide +kernel
theorem dX6_told_120 : decode cX6_told 120 = .ok (.iconst 0, 1) := by decide +kernel
theorem dX6_told_121 : decode cX6_told 121 = .ok (.istore_n 2, 1) := by decide +kernel
theorem dX6_told_122 : decode cX6_told 122 = .ok (.iconst 0, 1) := by decide +kernel
theorem dX6_told_123 : decode cX6_told 123 = .ok (.istore_n 3, 1) := by decide +kernel
theorem dX6_told_124 : decode cX6_told 124 = .ok (.iload_n 3, 1) := by decide +kernel
theorem dX6_told_125 : decode cX6_told 125 = .ok (.aload_n 0, 1) := by decide +kernel
theorem dX6_told_126 : decode cX6_told 126 = .ok (.getfield 67, 3) := by decide +kernel
theorem dX6_told_129 : decode cX6_told 129 = .ok (.if_icmp .ge 26, 3) := by decide +kernel
theorem dX6_told_132 : decode cX6_told 132 = .ok (.iload_n 2, 1) := by decide +kernel
theorem dX6_told_133 : decode cX6_told 133 = .ok (.aload_n 0, 1) := by decide +kernel
theorem dX6_told_134 : decode cX6_told 134 = .ok (.getfield 13, 3) := by decide +kernel
theorem dX6_told_137 : decode cX6_told 137 = .ok (.iload_n 3, 1) := by decide +kernel
theorem dX6_told_138 : decode cX6_told 138 = .ok (.baload, 1) := by decide +kernel
theorem dX6_told_139 : decode cX6_told 139 = .ok (.ifCond .eq 7, 3) := by decide +kernel
theorem dX6_told_142 : decode cX6_told 142 = .ok (.iconst 1, 1) := by decide +kernel
theorem dX6_told_143 : decode cX6_told 143 = .ok (.goto 4, 3) := by decide +kernel
theorem dX6_told_146 : decode cX6_told 146 = .ok (.iconst 0, 1) := by decide +kernel
theorem dX6_told_147 : decode cX6_told 147 = .ok (.iadd, 1) := by decide +kernel
theorem dX6_told_148 : decode cX6_told 148 = .ok (.istore_n 2, 1) := by decide +kernel
theorem dX6_told_149 : decode cX6_told 149 = .ok (.iinc 3 1, 3) := by decide +kernel
theorem dX6_told_152 : decode cX6_told 152 = .ok (.goto (-28), 3) := by decide +kernel
theorem dX6_told_155 : decode cX6_told 155 = .ok (.iload_n 2, 1) := by decide +kernel
theorem dX6_told_156 : decode cX6_told 156 = .ok (.ireturn, 1) := by decide +kernel
theorem dX6_told_157 : decode cX6_told 157 = .ok (.aload_n 0, 1) := by decide +kernel
theorem dX6_told_158 : decode cX6_told 158 = .ok (.getfield 67, 3) := by decide +kernel
theorem dX6_told_161 : decode cX6_told 161 = .ok (.ireturn, 1) := by decide +kernel
theorem dX6_told_162 : decode cX6_told 162 = .ok (.bipush (-2), 2) := by decide +kernel
theorem dX6_told_164 : decode cX6_told 164 = .ok (.ireturn, 1) := by decide +kernel
theorem dX6_twice_0 : decode cX6_twice 0 = .ok (.iload_n 0, 1) := by decide +kernel
theorem dX6_twice_1 : decode cX6_twice 1 = .ok (.iconst 1, 1) := by decide +kernel
theorem dX6_twice_2 : decode cX6_twice 2 = .ok (.ishl, 1) := by decide +kernel
theorem dX6_twice_3 : decode cX6_twice 3 = .ok (.istore_n 1, 1) := by decide +kernel
theorem dX6_twice_4 : decode cX6_twice 4 = .ok (.iload_n 1, 1) := by decide +kernel
theorem dX6_twice_5 : decode cX6_twice 5 = .ok (.sipush 255, 3) := by decide +kernel
theorem dX6_twice_8 : decode cX6_twice 8 = .ok (.if_icmp .le 11, 3) := by decide +kernel
theorem dX6_twice_11 : decode cX6_twice 11 = .ok (.iload_n 1, 1) := by decide +kernel
theorem dX6_twice_12 : decode cX6_twice 12 = .ok (.sipush 285, 3) := by decide +kernel
theorem dX6_twice_15 : decode cX6_twice 15 = .ok (.ixor, 1) := by decide +kernel
theorem dX6_twice_16 : decode cX6_twice 16 = .ok (.goto 4, 3) := by decide +kernel
theorem dX6_twice_19 : decode cX6_twice 19 = .ok (.iload_n 1, 1) := by decide +kernel
theorem dX6_twice_20 : decode cX6_twice 20 = .ok (.ireturn, 1) := by decide +kernel
theorem dX6_weight_0 : decode cX6_weight 0 = .ok (.iload_n 0, 1) := by decide +kernel
theorem dX6_weight_1 : decode cX6_weight 1 = .ok (.ifCond .ne 7, 3) := by decide +kernel
theorem dX6_weight_4 : decode cX6_weight 4 = .ok (.iconst 1, 1) := by decide +kernel
theorem dX6_weight_5 : decode cX6_weight 5 = .ok (.goto 6, 3) := by decide +kernel
theorem dX6_weight_8 : decode cX6_weight 8 = .ok (.iconst 1, 1) := by decide +kernel
theorem dX6_weight_9 : decode cX6_weight 9 = .ok (.iload_n 1, 1) := by decide +kernel
theorem dX6_weight_10 : decode cX6_weight 10 = .ok (.ishl, 1) := by decide +kernel
theorem dX6_weight_11 : decode cX6_weight 11 = .ok (.ireturn, 1) := by decide +kernel
theorem dX6_add_0 : decode cX6_add 0 = .ok (.aload_n 0, 1) := by decide +kernel
theorem dX6_add_1 : decode cX6_add 1 = .ok (.iconst 0, 1) := by decide +kernel
theorem dX6_add_2 : decode cX6_add 2 = .ok (.putfield 70, 3) := by decide +kernel
theorem dX6_add_5 : decode cX6_add 5 = .ok (.iload_n 3, 1) := by decide +kernel
theorem dX6_add_6 : decode cX6_add 6 = .ok (.iconst 1, 1) := by decide +kernel
theorem dX6_add_7 : decode cX6_add 7 = .ok (.bipush 8, 2) := by decide +kernel
theorem dX6_add_9 : decode cX6_add 9 = .ok (.invokestatic 73, 3) := by decide +kernel
theorem dX6_add_12 : decode cX6_add 12 = .ok (.ifCond .ne 6, 3) := by decide +kernel
theorem dX6_add_15 : decode cX6_add 15 = .ok (.bipush (-2), 2) := by decide +kernel
theorem dX6_add_17 : decode cX6_add 17 = .ok (.ireturn, 1) := by decide +kernel
theorem dX6_add_18 : decode cX6_add 18 = .ok (.aload_n 0, 1) := by decide +kernel
theorem dX6_add_19 : decode cX6_add 19 = .ok (.getfield 17, 3) := by decide +kernel
theorem dX6_add_22 : decode cX6_add 22 = .ok (.ifCond .eq 11, 3) := by decide +kernel
theorem dX6_add_25 : decode cX6_add 25 = .ok (.aload_n 0, 1) := by decide +kernel
theorem dX6_add_26 : decode cX6_add 26 = .ok (.getfield 25, 3) := by decide +kernel
theorem dX6_add_29 : decode cX6_add 29 = .ok (.iconst (-1), 1) := by decide +kernel
theorem dX6_add_30 : decode cX6_add 30 = .ok (.if_icmp .ne 6, 3) := by decide +kernel
theorem dX6_add_33 : decode cX6_add 33 = .ok (.bipush (-3), 2) := by decide +kernel
theorem dX6_add_35 : decode cX6_add 35 = .ok (.ireturn, 1) := by decide +kernel
theorem dX6_add_36 : decode cX6_add 36 = .ok (.aload_n 0, 1) := by decide +kernel
theorem dX6_add_37 : decode cX6_add 37 = .ok (.getfield 116, 3) := by decide +kernel
theorem dX6_add_40 : decode cX6_add 40 = .ok (.iload_n 3, 1) := by decide +kernel
theorem dX6_add_41 : decode cX6_add 41 = .ok (.iadd, 1) := by decide +kernel
theorem dX6_add_42 : decode cX6_add 42 = .ok (.bipush 96, 2) := by decide +kernel
theorem dX6_add_44 : decode cX6_add 44 = .ok (.if_icmp .le 6, 3) := by decide +kernel
theorem dX6_add_47 : decode cX6_add 47 = .ok (.bipush (-4), 2) := by decide +kernel
theorem dX6_add_49 : decode cX6_add 49 = .ok (.ireturn, 1) := by decide +kernel
theorem dX6_add_50 : decode cX6_add 50 = .ok (.iconst 0, 1) := by decide +kernel
theorem dX6_add_51 : decode cX6_add 51 = .ok (.istore 4, 2) := by decide +kernel
theorem dX6_add_53 : decode cX6_add 53 = .ok (.iload 4, 2) := by decide +kernel
theorem dX6_add_55 : decode cX6_add 55 = .ok (.iload_n 3, 1) := by decide +kernel
theorem dX6_add_56 : decode cX6_add 56 = .ok (.if_icmp .ge 40, 3) := by decide +kernel
theorem dX6_add_59 : decode cX6_add 59 = .ok (.aload_n 0, 1) := by decide +kernel
theorem dX6_add_60 : decode cX6_add 60 = .ok (.getfield 28, 3) := by decide +kernel
theorem dX6_add_63 : decode cX6_add 63 = .ok (.aload_n 0, 1) := by decide +kernel
theorem dX6_add_64 : decode cX6_add 64 = .ok (.getfield 116, 3) := by decide +kernel
theorem dX6_add_67 : decode cX6_add 67 = .ok (.lload_n 1, 1) := by decide +kernel
theorem dX6_add_68 : decode cX6_add 68 = .ok (.bipush 8, 2) := by decide +kernel
theorem dX6_add_70 : decode cX6_add 70 = .ok (.iload 4, 2) := by decide +kernel
theorem dX6_add_72 : decode cX6_add 72 = .ok (.imul, 1) := by decide +kernel
theorem dX6_add_73 : decode cX6_add 73 = .ok (.lshr, 1) := by decide +kernel
theorem dX6_add_74 : decode cX6_add 74 = .ok (.ldc2_w 119, 3) := by decide +kernel
theorem dX6_add_77 : decode cX6_add 77 = .ok (.land, 1) := by decide +kernel
theorem dX6_add_78 : decode cX6_add 78 = .ok (.l2i, 1) := by decide +kernel
theorem dX6_add_79 : decode cX6_add 79 = .ok (.iastore, 1) := by decide +kernel
theorem dX6_add_80 : decode cX6_add 80 = .ok (.aload_n 0, 1) := by decide +kernel
theorem dX6_add_81 : decode cX6_add 81 = .ok (.dup, 1) := by decide +kernel
theorem dX6_add_82 : decode cX6_add 82 = .ok (.getfield 116, 3) := by decide +kernel
theorem dX6_add_85 : decode cX6_add 85 = .ok (.iconst 1, 1) := by decide +kernel
theorem dX6_add_86 : decode cX6_add 86 = .ok (.iadd, 1) := by decide +kernel
theorem dX6_add_87 : decode cX6_add 87 = .ok (.putfield 116, 3) := by decide +kernel
theorem dX6_add_90 : decode cX6_add 90 = .ok (.iinc 4 1, 3) := by decide +kernel
theorem dX6_add_93 : decode cX6_add 93 = .ok (.goto (-40), 3) := by decide +kernel
theorem dX6_add_96 : decode cX6_add 96 = .ok (.aload_n 0, 1) := by decide +kernel
theorem dX6_add_97 : decode cX6_add 97 = .ok (.getfield 116, 3) := by decide +kernel
theorem dX6_add_100 : decode cX6_add 100 = .ok (.ireturn, 1) := by decide +kernel
theorem dX6_blocksAt_0 : decode cX6_blocksAt 0 = .ok (.aload_n 0, 1) := by decide +kernel
theorem dX6_blocksAt_1 : decode cX6_blocksAt 1 = .ok (.iload_n 1, 1) := by decide +kernel
theorem dX6_blocksAt_2 : decode cX6_blocksAt 2 = .ok (.invokevirtual 103, 3) := by decide +kernel
theorem dX6_blocksAt_5 : decode cX6_blocksAt 5 = .ok (.bipush 24, 2) := by decide +kernel
theorem dX6_blocksAt_7 : decode cX6_blocksAt 7 = .ok (.iadd, 1) := by decide +kernel
theorem dX6_blocksAt_8 : decode cX6_blocksAt 8 = .ok (.iconst 1, 1) := by decide +kernel
theorem dX6_blocksAt_9 : decode cX6_blocksAt 9 = .ok (.isub, 1) := by decide +kernel
theorem dX6_blocksAt_10 : decode cX6_blocksAt 10 = .ok (.bipush 24, 2) := by decide +kernel
theorem dX6_blocksAt_12 : decode cX6_blocksAt 12 = .ok (.idiv, 1) := by decide +kernel
theorem dX6_blocksAt_13 : decode cX6_blocksAt 13 = .ok (.ireturn, 1) := by decide +kernel
theorem dX6_head_0 : decode cX6_head 0 = .ok (.aload_n 0, 1) := by decide +kernel
theorem dX6_head_1 : decode cX6_head 1 = .ok (.iconst 1, 1) := by decide +kernel
theorem dX6_head_2 : decode cX6_head 2 = .ok (.iconst 0, 1) := by decide +kernel
theorem dX6_head_3 : decode cX6_head 3 = .ok (.iconst 0, 1) := by decide +kernel
theorem dX6_head_4 : decode cX6_head 4 = .ok (.iconst 0, 1) := by decide +kernel
theorem dX6_head_5 : decode cX6_head 5 = .ok (.invokevirtual 121, 3) := by decide +kernel
theorem dX6_head_8 : decode cX6_head 8 = .ok (.iconst 0, 1) := by decide +kernel
theorem dX6_head_9 : decode cX6_head 9 = .ok (.istore_n 2, 1) := by decide +kernel
theorem dX6_head_10 : decode cX6_head 10 = .ok (.iload_n 2, 1) := by decide +kernel
theorem dX6_head_11 : decode cX6_head 11 = .ok (.iconst 4, 1) := by decide +kernel
theorem dX6_head_12 : decode cX6_head 12 = .ok (.if_icmp .ge 30, 3) := by decide +kernel
theorem dX6_head_15 : decode cX6_head 15 = .ok (.aload_n 0, 1) := by decide +kernel
theorem dX6_head_16 : decode cX6_head 16 = .ok (.getfield 40, 3) := by decide +kernel
theorem dX6_head_19 : decode cX6_head 19 = .ok (.iconst 4, 1) := by decide +kernel
theorem dX6_head_20 : decode cX6_head 20 = .ok (.iload_n 2, 1) := by decide +kernel
theorem dX6_head_21 : decode cX6_head 21 = .ok (.iadd, 1) := by decide +kernel
theorem dX6_head_22 : decode cX6_head 22 = .ok (.iload_n 1, 1) := by decide +kernel
theorem dX6_head_23 : decode cX6_head 23 = .ok (.bipush 24, 2) := by decide +kernel
theorem dX6_head_25 : decode cX6_head 25 = .ok (.bipush 8, 2) := by decide +kernel
theorem dX6_head_27 : decode cX6_head 27 = .ok (.iload_n 2, 1) := by decide +kernel
theorem dX6_head_28 : decode cX6_head 28 = .ok (.imul, 1) := by decide +kernel
theorem dX6_head_29 : decode cX6_head 29 = .ok (.isub, 1) := by decide +kernel
theorem dX6_head_30 : decode cX6_head 30 = .ok (.ishr, 1) := by decide +kernel
theorem dX6_head_31 : decode cX6_head 31 = .ok (.sipush 255, 3) := by decide +kernel
theorem dX6_head_34 : decode cX6_head 34 = .ok (.iand, 1) := by decide +kernel
theorem dX6_head_35 : decode cX6_head 35 = .ok (.iastore, 1) := by decide +kernel
theorem dX6_head_36 : decode cX6_head 36 = .ok (.iinc 2 1, 3) := by decide +kernel
theorem dX6_head_39 : decode cX6_head 39 = .ok (.goto (-29), 3) := by decide +kernel
theorem dX6_head_42 : decode cX6_head 42 = .ok (.aload_n 0, 1) := by decide +kernel
theorem dX6_head_43 : decode cX6_head 43 = .ok (.getfield 40, 3) := by decide +kernel
theorem dX6_head_46 : decode cX6_head 46 = .ok (.bipush 8, 2) := by decide +kernel
theorem dX6_head_48 : decode cX6_head 48 = .ok (.aload_n 0, 1) := by decide +kernel
theorem dX6_head_49 : decode cX6_head 49 = .ok (.getfield 21, 3) := by decide +kernel
theorem dX6_head_52 : decode cX6_head 52 = .ok (.iastore, 1) := by decide +kernel
theorem dX6_head_53 : decode cX6_head 53 = .ok (.aload_n 0, 1) := by decide +kernel
theorem dX6_head_54 : decode cX6_head 54 = .ok (.getfield 40, 3) := by decide +kernel
theorem dX6_head_57 : decode cX6_head 57 = .ok (.bipush 9, 2) := by decide +kernel
theorem dX6_head_59 : decode cX6_head 59 = .ok (.aload_n 0, 1) := by decide +kernel
theorem dX6_head_60 : decode cX6_head 60 = .ok (.getfield 100, 3) := by decide +kernel
theorem dX6_head_63 : decode cX6_head 63 = .ok (.iastore, 1) := by decide +kernel
theorem dX6_head_64 : decode cX6_head 64 = .ok (.return_, 1) := by decide +kernel
theorem dX6_isRow_0 : decode cX6_isRow 0 = .ok (.iload_n 1, 1) := by decide +kernel
theorem dX6_isRow_1 : decode cX6_isRow 1 = .ok (.iconst 0, 1) := by decide +kernel
theorem dX6_isRow_2 : decode cX6_isRow 2 = .ok (.aload_n 0, 1) := by decide +kernel
theorem dX6_isRow_3 : decode cX6_isRow 3 = .ok (.getfield 100, 3) := by decide +kernel
theorem dX6_isRow_6 : decode cX6_isRow 6 = .ok (.iconst 1, 1) := by decide +kernel
theorem dX6_isRow_7 : decode cX6_isRow 7 = .ok (.isub, 1) := by decide +kernel
theorem dX6_isRow_8 : decode cX6_isRow 8 = .ok (.invokestatic 73, 3) := by decide +kernel
theorem dX6_isRow_11 : decode cX6_isRow 11 = .ok (.ireturn, 1) := by decide +kernel
theorem dX6_isSector_0 : decode cX6_isSector 0 = .ok (.iload_n 1, 1) := by decide +kernel
theorem dX6_isSector_1 : decode cX6_isSector 1 = .ok (.iconst 0, 1) := by decide +kernel
theorem dX6_isSector_2 : decode cX6_isSector 2 = .ok (.aload_n 0, 1) := by decide +kernel
theorem dX6_isSector_3 : decode cX6_isSector 3 = .ok (.getfield 67, 3) := by decide +kernel
theorem dX6_isSector_6 : decode cX6_isSector 6 = .ok (.iconst 1, 1) := by decide +kernel
theorem dX6_isSector_7 : decode cX6_isSector 7 = .ok (.isub, 1) := by decide +kernel
theorem dX6_isSector_8 : decode cX6_isSector 8 = .ok (.invokestatic 73, 3) := by decide +kernel
theorem dX6_isSector_11 : decode cX6_isSector 11 = .ok (.ireturn, 1) := by decide +kernel
theorem dX6_open_0 : decode cX6_open 0 = .ok (.aload_n 0, 1) := by decide +kernel
theorem dX6_open_1 : decode cX6_open 1 = .ok (.iconst 0, 1) := by decide +kernel
theorem dX6_open_2 : decode cX6_open 2 = .ok (.putfield 70, 3) := by decide +kernel
theorem dX6_open_5 : decode cX6_open 5 = .ok (.iload_n 1, 1) := by decide +kernel
theorem dX6_open_6 : decode cX6_open 6 = .ok (.iconst 0, 1) := by decide +kernel
theorem dX6_open_7 : decode cX6_open 7 = .ok (.bipush 9, 2) := by decide +kernel
theorem dX6_open_9 : decode cX6_open 9 = .ok (.invokestatic 73, 3) := by decide +kernel
theorem dX6_open_12 : decode cX6_open 12 = .ok (.ifCond .ne 6, 3) := by decide +kernel
theorem dX6_open_15 : decode cX6_open 15 = .ok (.bipush (-2), 2) := by decide +kernel
theorem dX6_open_17 : decode cX6_open 17 = .ok (.ireturn, 1) := by decide +kernel
theorem dX6_open_18 : decode cX6_open 18 = .ok (.aload_n 0, 1) := by decide +kernel
theorem dX6_open_19 : decode cX6_open 19 = .ok (.getfield 17, 3) := by decide +kernel
theorem dX6_open_22 : decode cX6_open 22 = .ok (.ifCond .eq 11, 3) := by decide +kernel
theorem dX6_open_25 : decode cX6_open 25 = .ok (.aload_n 0, 1) := by decide +kernel
theorem dX6_open_26 : decode cX6_open 26 = .ok (.getfield 25, 3) := by decide +kernel
theorem dX6_open_29 : decode cX6_open 29 = .ok (.iconst (-1), 1) := by decide +kernel
theorem dX6_open_30 : decode cX6_open 30 = .ok (.if_icmp .eq 6, 3) := by decide +kernel
theorem dX6_open_33 : decode cX6_open 33 = .ok (.bipush (-3), 2) := by decide +kernel
theorem dX6_open_35 : decode cX6_open 35 = .ok (.ireturn, 1) := by decide +kernel
theorem dX6_open_36 : decode cX6_open 36 = .ok (.aload_n 0, 1) := by decide +kernel
theorem dX6_open_37 : decode cX6_open 37 = .ok (.getfield 67, 3) := by decide +kernel
theorem dX6_open_40 : decode cX6_open 40 = .ok (.aload_n 0, 1) := by decide +kernel
theorem dX6_open_41 : decode cX6_open 41 = .ok (.getfield 21, 3) := by decide +kernel
theorem dX6_open_44 : decode cX6_open 44 = .ok (.isub, 1) := by decide +kernel
theorem dX6_open_45 : decode cX6_open 45 = .ok (.iconst 5, 1) := by decide +kernel
theorem dX6_open_46 : decode cX6_open 46 = .ok (.if_icmp .lt 12, 3) := by decide +kernel
theorem dX6_open_49 : decode cX6_open 49 = .ok (.aload_n 0, 1) := by decide +kernel
theorem dX6_open_50 : decode cX6_open 50 = .ok (.getfield 100, 3) := by decide +kernel
theorem dX6_open_53 : decode cX6_open 53 = .ok (.bipush 60, 2) := by decide +kernel
theorem dX6_open_55 : decode cX6_open 55 = .ok (.if_icmp .ne 6, 3) := by decide +kernel
theorem dX6_open_58 : decode cX6_open 58 = .ok (.bipush (-4), 2) := by decide +kernel
theorem dX6_open_60 : decode cX6_open 60 = .ok (.ireturn, 1) := by decide +kernel
theorem dX6_open_61 : decode cX6_open 61 = .ok (.aload_n 0, 1) := by decide +kernel
theorem dX6_open_62 : decode cX6_open 62 = .ok (.iload_n 1, 1) := by decide +kernel
theorem dX6_open_63 : decode cX6_open 63 = .ok (.putfield 25, 3) := by decide +kernel
theorem dX6_open_66 : decode cX6_open 66 = .ok (.aload_n 0, 1) := by decide +kernel
theorem dX6_open_67 : decode cX6_open 67 = .ok (.iconst 0, 1) := by decide +kernel
theorem dX6_open_68 : decode cX6_open 68 = .ok (.putfield 116, 3) := by decide +kernel
theorem dX6_open_71 : decode cX6_open 71 = .ok (.aload_n 0, 1) := by decide +kernel
theorem dX6_open_72 : decode cX6_open 72 = .ok (.getfield 100, 3) := by decide +kernel
theorem dX6_open_75 : decode cX6_open 75 = .ok (.ireturn, 1) := by decide +kernel
theorem dX6_product_0 : decode cX6_product 0 = .ok (.iload_n 1, 1) := by decide +kernel
theorem dX6_product_1 : decode cX6_product 1 = .ok (.istore_n 2, 1) := by decide +kernel
theorem dX6_product_2 : decode cX6_product 2 = .ok (.iload_n 0, 1) := by decide +kernel
theorem dX6_product_3 : decode cX6_product 3 = .ok (.istore_n 3, 1) := by decide +kernel
theorem dX6_product_4 : decode cX6_product 4 = .ok (.iconst 0, 1) := by decide +kernel
theorem dX6_product_5 : decode cX6_product 5 = .ok (.istore 4, 2) := by decide +kernel
theorem dX6_product_7 : decode cX6_product 7 = .ok (.iload_n 2, 1) := by decide +kernel
theorem dX6_product_8 : decode cX6_product 8 = .ok (.ifCond .le 33, 3) := by decide +kernel
theorem dX6_product_11 : decode cX6_product 11 = .ok (.iload_n 2, 1) := by decide +kernel
theorem dX6_product_12 : decode cX6_product 12 = .ok (.iconst 1, 1) := by decide +kernel
theorem dX6_product_13 : decode cX6_product 13 = .ok (.iand, 1) := by decide +kernel
theorem dX6_product_14 : decode cX6_product 14 = .ok (.iconst 1, 1) := by decide +kernel
theorem dX6_product_15 : decode cX6_product 15 = .ok (.if_icmp .ne 10, 3) := by decide +kernel
theorem dX6_product_18 : decode cX6_product 18 = .ok (.iload 4, 2) := by decide +kernel
theorem dX6_product_20 : decode cX6_product 20 = .ok (.iload_n 3, 1) := by decide +kernel
theorem dX6_product_21 : decode cX6_product 21 = .ok (.ixor, 1) := by decide +kernel
theorem dX6_product_22 : decode cX6_product 22 = .ok (.goto 5, 3) := by decide +kernel
theorem dX6_product_25 : decode cX6_product 25 = .ok (.iload 4, 2) := by decide +kernel
theorem dX6_product_27 : decode cX6_product 27 = .ok (.istore 4, 2) := by decide +kernel
theorem dX6_product_29 : decode cX6_product 29 = .ok (.iload_n 3, 1) := by decide +kernel
theorem dX6_product_30 : decode cX6_product 30 = .ok (.invokestatic 135, 3) := by decide +kernel
theorem dX6_product_33 : decode cX6_product 33 = .ok (.istore_n 3, 1) := by decide +kernel
theorem dX6_product_34 : decode cX6_product 34 = .ok (.iload_n 2, 1) := by decide +kernel
theorem dX6_product_35 : decode cX6_product 35 = .ok (.iconst 1, 1) := by decide +kernel
theorem dX6_product_36 : decode cX6_product 36 = .ok (.ishr, 1) := by decide +kernel
theorem dX6_product_37 : decode cX6_product 37 = .ok (.istore_n 2, 1) := by decide +kernel
theorem dX6_product_38 : decode cX6_product 38 = .ok (.goto (-31), 3) := by decide +kernel
theorem dX6_product_41 : decode cX6_product 41 = .ok (.iload 4, 2) := by decide +kernel
theorem dX6_product_43 : decode cX6_product 43 = .ok (.ireturn, 1) := by decide +kernel
theorem dX6_seal_0 : decode cX6_seal 0 = .ok (.aload_n 0, 1) := by decide +kernel
theorem dX6_seal_1 : decode cX6_seal 1 = .ok (.getfield 40, 3) := by decide +kernel
theorem dX6_seal_4 : decode cX6_seal 4 = .ok (.iconst 0, 1) := by decide +kernel
theorem dX6_seal_5 : decode cX6_seal 5 = .ok (.invokestatic 78, 3) := by decide +kernel
theorem dX6_seal_8 : decode cX6_seal 8 = .ok (.istore_n 1, 1) := by decide +kernel
theorem dX6_seal_9 : decode cX6_seal 9 = .ok (.iconst 0, 1) := by decide +kernel
theorem dX6_seal_10 : decode cX6_seal 10 = .ok (.istore_n 2, 1) := by decide +kernel
theorem dX6_seal_11 : decode cX6_seal 11 = .ok (.iload_n 2, 1) := by decide +kernel
theorem dX6_seal_12 : decode cX6_seal 12 = .ok (.iconst 4, 1) := by decide +kernel
theorem dX6_seal_13 : decode cX6_seal 13 = .ok (.if_icmp .ge 31, 3) := by decide +kernel
theorem dX6_seal_16 : decode cX6_seal 16 = .ok (.aload_n 0, 1) := by decide +kernel
theorem dX6_seal_17 : decode cX6_seal 17 = .ok (.getfield 40, 3) := by decide +kernel
theorem dX6_seal_20 : decode cX6_seal 20 = .ok (.bipush 28, 2) := by decide +kernel
theorem dX6_seal_22 : decode cX6_seal 22 = .ok (.iload_n 2, 1) := by decide +kernel
theorem dX6_seal_23 : decode cX6_seal 23 = .ok (.iadd, 1) := by decide +kernel
theorem dX6_seal_24 : decode cX6_seal 24 = .ok (.iload_n 1, 1) := by decide +kernel
theorem dX6_seal_25 : decode cX6_seal 25 = .ok (.bipush 24, 2) := by decide +kernel
theorem dX6_seal_27 : decode cX6_seal 27 = .ok (.bipush 8, 2) := by decide +kernel
theorem dX6_seal_29 : decode cX6_seal 29 = .ok (.iload_n 2, 1) := by decide +kernel
theorem dX6_seal_30 : decode cX6_seal 30 = .ok (.imul, 1) := by decide +kernel
theorem dX6_seal_31 : decode cX6_seal 31 = .ok (.isub, 1) := by decide +kernel
theorem dX6_seal_32 : decode cX6_seal 32 = .ok (.ishr, 1) := by decide +kernel
theorem dX6_seal_33 : decode cX6_seal 33 = .ok (.sipush 255, 3) := by decide +kernel
theorem dX6_seal_36 : decode cX6_seal 36 = .ok (.iand, 1) := by decide +kernel
theorem dX6_seal_37 : decode cX6_seal 37 = .ok (.iastore, 1) := by decide +kernel
theorem dX6_seal_38 : decode cX6_seal 38 = .ok (.iinc 2 1, 3) := by decide +kernel
theorem dX6_seal_41 : decode cX6_seal 41 = .ok (.goto (-30), 3) := by decide +kernel
theorem dX6_seal_44 : decode cX6_seal 44 = .ok (.return_, 1) := by decide +kernel
theorem dX6_sortOf_0 : decode cX6_sortOf 0 = .ok (.bipush 32, 2) := by decide +kernel
theorem dX6_sortOf_2 : decode cX6_sortOf 2 = .ok (.iload_n 1, 1) := by decide +kernel
theorem dX6_sortOf_3 : decode cX6_sortOf 3 = .ok (.imul, 1) := by decide +kernel
theorem dX6_sortOf_4 : decode cX6_sortOf 4 = .ok (.istore_n 2, 1) := by decide +kernel
theorem dX6_sortOf_5 : decode cX6_sortOf 5 = .ok (.aload_n 0, 1) := by decide +kernel
theorem dX6_sortOf_6 : decode cX6_sortOf 6 = .ok (.getfield 7, 3) := by decide +kernel
theorem dX6_sortOf_9 : decode cX6_sortOf 9 = .ok (.iload_n 2, 1) := by decide +kernel
theorem dX6_sortOf_10 : decode cX6_sortOf 10 = .ok (.bipush 28, 2) := by decide +kernel
theorem dX6_sortOf_12 : decode cX6_sortOf 12 = .ok (.iadd, 1) := by decide +kernel
theorem dX6_sortOf_13 : decode cX6_sortOf 13 = .ok (.iaload, 1) := by decide +kernel
theorem dX6_sortOf_14 : decode cX6_sortOf 14 = .ok (.bipush 24, 2) := by decide +kernel
theorem dX6_sortOf_16 : decode cX6_sortOf 16 = .ok (.ishl, 1) := by decide +kernel
theorem dX6_sortOf_17 : decode cX6_sortOf 17 = .ok (.aload_n 0, 1) := by decide +kernel
theorem dX6_sortOf_18 : decode cX6_sortOf 18 = .ok (.getfield 7, 3) := by decide +kernel
theorem dX6_sortOf_21 : decode cX6_sortOf 21 = .ok (.iload_n 2, 1) := by decide +kernel
theorem dX6_sortOf_22 : decode cX6_sortOf 22 = .ok (.bipush 29, 2) := by decide +kernel
theorem dX6_sortOf_24 : decode cX6_sortOf 24 = .ok (.iadd, 1) := by decide +kernel
theorem dX6_sortOf_25 : decode cX6_sortOf 25 = .ok (.iaload, 1) := by decide +kernel
theorem dX6_sortOf_26 : decode cX6_sortOf 26 = .ok (.bipush 16, 2) := by decide +kernel
theorem dX6_sortOf_28 : decode cX6_sortOf 28 = .ok (.ishl, 1) := by decide +kernel
theorem dX6_sortOf_29 : decode cX6_sortOf 29 = .ok (.ior, 1) := by decide +kernel
theorem dX6_sortOf_30 : decode cX6_sortOf 30 = .ok (.aload_n 0, 1) := by decide +kernel
theorem dX6_sortOf_31 : decode cX6_sortOf 31 = .ok (.getfield 7, 3) := by decide +kernel
theorem dX6_sortOf_34 : decode cX6_sortOf 34 = .ok (.iload_n 2, 1) := by decide +kernel
theorem dX6_sortOf_35 : decode cX6_sortOf 35 = .ok (.bipush 30, 2) := by decide +kernel
theorem dX6_sortOf_37 : decode cX6_sortOf 37 = .ok (.iadd, 1) := by decide +kernel
theorem dX6_sortOf_38 : decode cX6_sortOf 38 = .ok (.iaload, 1) := by decide +kernel
theorem dX6_sortOf_39 : decode cX6_sortOf 39 = .ok (.bipush 8, 2) := by decide +kernel
theorem dX6_sortOf_41 : decode cX6_sortOf 41 = .ok (.ishl, 1) := by decide +kernel
theorem dX6_sortOf_42 : decode cX6_sortOf 42 = .ok (.ior, 1) := by decide +kernel
theorem dX6_sortOf_43 : decode cX6_sortOf 43 = .ok (.aload_n 0, 1) := by decide +kernel
theorem dX6_sortOf_44 : decode cX6_sortOf 44 = .ok (.getfield 7, 3) := by decide +kernel
theorem dX6_sortOf_47 : decode cX6_sortOf 47 = .ok (.iload_n 2, 1) := by decide +kernel
theorem dX6_sortOf_48 : decode cX6_sortOf 48 = .ok (.bipush 31, 2) := by decide +kernel
theorem dX6_sortOf_50 : decode cX6_sortOf 50 = .ok (.iadd, 1) := by decide +kernel
theorem dX6_sortOf_51 : decode cX6_sortOf 51 = .ok (.iaload, 1) := by decide +kernel
theorem dX6_sortOf_52 : decode cX6_sortOf 52 = .ok (.ior, 1) := by decide +kernel
theorem dX6_sortOf_53 : decode cX6_sortOf 53 = .ok (.istore_n 3, 1) := by decide +kernel
theorem dX6_sortOf_54 : decode cX6_sortOf 54 = .ok (.aload_n 0, 1) := by decide +kernel
theorem dX6_sortOf_55 : decode cX6_sortOf 55 = .ok (.getfield 13, 3) := by decide +kernel
theorem dX6_sortOf_58 : decode cX6_sortOf 58 = .ok (.iload_n 1, 1) := by decide +kernel
theorem dX6_sortOf_59 : decode cX6_sortOf 59 = .ok (.baload, 1) := by decide +kernel
theorem dX6_sortOf_60 : decode cX6_sortOf 60 = .ok (.ifCond .ne 38, 3) := by decide +kernel
theorem dX6_sortOf_63 : decode cX6_sortOf 63 = .ok (.aload_n 0, 1) := by decide +kernel
theorem dX6_sortOf_64 : decode cX6_sortOf 64 = .ok (.getfield 7, 3) := by decide +kernel
theorem dX6_sortOf_67 : decode cX6_sortOf 67 = .ok (.iload_n 2, 1) := by decide +kernel
theorem dX6_sortOf_68 : decode cX6_sortOf 68 = .ok (.iaload, 1) := by decide +kernel
theorem dX6_sortOf_69 : decode cX6_sortOf 69 = .ok (.iconst 1, 1) := by decide +kernel
theorem dX6_sortOf_70 : decode cX6_sortOf 70 = .ok (.iconst 4, 1) := by decide +kernel
theorem dX6_sortOf_71 : decode cX6_sortOf 71 = .ok (.invokestatic 73, 3) := by decide +kernel
theorem dX6_sortOf_74 : decode cX6_sortOf 74 = .ok (.ifCond .eq 24, 3) := by decide +kernel
theorem dX6_sortOf_77 : decode cX6_sortOf 77 = .ok (.iload_n 3, 1) := by decide +kernel
theorem dX6_sortOf_78 : decode cX6_sortOf 78 = .ok (.aload_n 0, 1) := by decide +kernel
theorem dX6_sortOf_79 : decode cX6_sortOf 79 = .ok (.getfield 7, 3) := by decide +kernel
theorem dX6_sortOf_82 : decode cX6_sortOf 82 = .ok (.iload_n 2, 1) := by decide +kernel
theorem dX6_sortOf_83 : decode cX6_sortOf 83 = .ok (.invokestatic 78, 3) := by decide +kernel
theorem dX6_sortOf_86 : decode cX6_sortOf 86 = .ok (.if_icmp .ne 12, 3) := by decide +kernel
theorem dX6_sortOf_89 : decode cX6_sortOf 89 = .ok (.aload_n 0, 1) := by decide +kernel
theorem dX6_sortOf_90 : decode cX6_sortOf 90 = .ok (.getfield 7, 3) := by decide +kernel
theorem dX6_sortOf_93 : decode cX6_sortOf 93 = .ok (.iload_n 2, 1) := by decide +kernel
theorem dX6_sortOf_94 : decode cX6_sortOf 94 = .ok (.iaload, 1) := by decide +kernel
theorem dX6_sortOf_95 : decode cX6_sortOf 95 = .ok (.goto 4, 3) := by decide +kernel
theorem dX6_sortOf_98 : decode cX6_sortOf 98 = .ok (.iconst 0, 1) := by decide +kernel
theorem dX6_sortOf_99 : decode cX6_sortOf 99 = .ok (.ireturn, 1) := by decide +kernel
theorem dX6_isBlock_0 : decode cX6_isBlock 0 = .ok (.aload_n 0, 1) := by decide +kernel
theorem dX6_isBlock_1 : decode cX6_isBlock 1 = .ok (.iload_n 1, 1) := by decide +kernel
theorem dX6_isBlock_2 : decode cX6_isBlock 2 = .ok (.invokevirtual 82, 3) := by decide +kernel
theorem dX6_isBlock_5 : decode cX6_isBlock 5 = .ok (.ifCond .eq 16, 3) := by decide +kernel
theorem dX6_isBlock_8 : decode cX6_isBlock 8 = .ok (.aload_n 0, 1) := by decide +kernel
theorem dX6_isBlock_9 : decode cX6_isBlock 9 = .ok (.iload_n 1, 1) := by decide +kernel
theorem dX6_isBlock_10 : decode cX6_isBlock 10 = .ok (.invokevirtual 86, 3) := by decide +kernel
theorem dX6_isBlock_13 : decode cX6_isBlock 13 = .ok (.iconst 2, 1) := by decide +kernel
theorem dX6_isBlock_14 : decode cX6_isBlock 14 = .ok (.if_icmp .ne 7, 3) := by decide +kernel
theorem dX6_isBlock_17 : decode cX6_isBlock 17 = .ok (.iconst 1, 1) := by decide +kernel
theorem dX6_isBlock_18 : decode cX6_isBlock 18 = .ok (.goto 4, 3) := by decide +kernel
theorem dX6_isBlock_21 : decode cX6_isBlock 21 = .ok (.iconst 0, 1) := by decide +kernel
theorem dX6_isBlock_22 : decode cX6_isBlock 22 = .ok (.ireturn, 1) := by decide +kernel
theorem dX6_isHead_0 : decode cX6_isHead 0 = .ok (.aload_n 0, 1) := by decide +kernel
theorem dX6_isHead_1 : decode cX6_isHead 1 = .ok (.iload_n 1, 1) := by decide +kernel
theorem dX6_isHead_2 : decode cX6_isHead 2 = .ok (.invokevirtual 86, 3) := by decide +kernel
theorem dX6_isHead_5 : decode cX6_isHead 5 = .ok (.iconst 1, 1) := by decide +kernel
theorem dX6_isHead_6 : decode cX6_isHead 6 = .ok (.if_icmp .ne 47, 3) := by decide +kernel
theorem dX6_isHead_9 : decode cX6_isHead 9 = .ok (.aload_n 0, 1) := by decide +kernel
theorem dX6_isHead_10 : decode cX6_isHead 10 = .ok (.getfield 7, 3) := by decide +kernel
theorem dX6_isHead_13 : decode cX6_isHead 13 = .ok (.bipush 32, 2) := by decide +kernel
theorem dX6_isHead_15 : decode cX6_isHead 15 = .ok (.iload_n 1, 1) := by decide +kernel
theorem dX6_isHead_16 : decode cX6_isHead 16 = .ok (.imul, 1) := by decide +kernel
theorem dX6_isHead_17 : decode cX6_isHead 17 = .ok (.bipush 8, 2) := by decide +kernel
theorem dX6_isHead_19 : decode cX6_isHead 19 = .ok (.iadd, 1) := by decide +kernel
theorem dX6_isHead_20 : decode cX6_isHead 20 = .ok (.iaload, 1) := by decide +kernel
theorem dX6_isHead_21 : decode cX6_isHead 21 = .ok (.iconst 2, 1) := by decide +kernel
theorem dX6_isHead_22 : decode cX6_isHead 22 = .ok (.aload_n 0, 1) := by decide +kernel
theorem dX6_isHead_23 : decode cX6_isHead 23 = .ok (.getfield 67, 3) := by decide +kernel
theorem dX6_isHead_26 : decode cX6_isHead 26 = .ok (.invokestatic 73, 3) := by decide +kernel
theorem dX6_isHead_29 : decode cX6_isHead 29 = .ok (.ifCond .eq 24, 3) := by decide +kernel
theorem dX6_isHead_32 : decode cX6_isHead 32 = .ok (.aload_n 0, 1) := by decide +kernel
theorem dX6_isHead_33 : decode cX6_isHead 33 = .ok (.getfield 7, 3) := by decide +kernel
theorem dX6_isHead_36 : decode cX6_isHead 36 = .ok (.bipush 32, 2) := by decide +kernel
theorem dX6_isHead_38 : decode cX6_isHead 38 = .ok (.iload_n 1, 1) := by decide +kernel
theorem dX6_isHead_39 : decode cX6_isHead 39 = .ok (.imul, 1) := by decide +kernel
theorem dX6_isHead_40 : decode cX6_isHead 40 = .ok (.bipush 9, 2) := by decide +kernel
theorem dX6_isHead_42 : decode cX6_isHead 42 = .ok (.iadd, 1) := by decide +kernel
theorem dX6_isHead_43 : decode cX6_isHead 43 = .ok (.iaload, 1) := by decide +kernel
theorem dX6_isHead_44 : decode cX6_isHead 44 = .ok (.bipush 60, 2) := by decide +kernel
theorem dX6_isHead_46 : decode cX6_isHead 46 = .ok (.if_icmp .gt 7, 3) := by decide +kernel
theorem dX6_isHead_49 : decode cX6_isHead 49 = .ok (.iconst 1, 1) := by decide +kernel
theorem dX6_isHead_50 : decode cX6_isHead 50 = .ok (.goto 4, 3) := by decide +kernel
theorem dX6_isHead_53 : decode cX6_isHead 53 = .ok (.iconst 0, 1) := by decide +kernel
theorem dX6_isHead_54 : decode cX6_isHead 54 = .ok (.ireturn, 1) := by decide +kernel
theorem dX6_lose_0 : decode cX6_lose 0 = .ok (.aload_n 0, 1) := by decide +kernel
theorem dX6_lose_1 : decode cX6_lose 1 = .ok (.iconst 0, 1) := by decide +kernel
theorem dX6_lose_2 : decode cX6_lose 2 = .ok (.putfield 70, 3) := by decide +kernel
theorem dX6_lose_5 : decode cX6_lose 5 = .ok (.aload_n 0, 1) := by decide +kernel
theorem dX6_lose_6 : decode cX6_lose 6 = .ok (.iload_n 1, 1) := by decide +kernel
theorem dX6_lose_7 : decode cX6_lose 7 = .ok (.invokevirtual 200, 3) := by decide +kernel
theorem dX6_lose_10 : decode cX6_lose 10 = .ok (.ifCond .ne 6, 3) := by decide +kernel
theorem dX6_lose_13 : decode cX6_lose 13 = .ok (.bipush (-2), 2) := by decide +kernel
theorem dX6_lose_15 : decode cX6_lose 15 = .ok (.ireturn, 1) := by decide +kernel
theorem dX6_lose_16 : decode cX6_lose 16 = .ok (.aload_n 0, 1) := by decide +kernel
theorem dX6_lose_17 : decode cX6_lose 17 = .ok (.getfield 13, 3) := by decide +kernel
theorem dX6_lose_20 : decode cX6_lose 20 = .ok (.iload_n 1, 1) := by decide +kernel
theorem dX6_lose_21 : decode cX6_lose 21 = .ok (.baload, 1) := by decide +kernel
theorem dX6_lose_22 : decode cX6_lose 22 = .ok (.ifCond .eq 7, 3) := by decide +kernel
theorem dX6_lose_25 : decode cX6_lose 25 = .ok (.iconst 0, 1) := by decide +kernel
theorem dX6_lose_26 : decode cX6_lose 26 = .ok (.goto 4, 3) := by decide +kernel
theorem dX6_lose_29 : decode cX6_lose 29 = .ok (.iconst 1, 1) := by decide +kernel
theorem dX6_lose_30 : decode cX6_lose 30 = .ok (.istore_n 2, 1) := by decide +kernel
theorem dX6_lose_31 : decode cX6_lose 31 = .ok (.aload_n 0, 1) := by decide +kernel
theorem dX6_lose_32 : decode cX6_lose 32 = .ok (.getfield 13, 3) := by decide +kernel
theorem dX6_lose_35 : decode cX6_lose 35 = .ok (.iload_n 1, 1) := by decide +kernel
theorem dX6_lose_36 : decode cX6_lose 36 = .ok (.iconst 1, 1) := by decide +kernel
theorem dX6_lose_37 : decode cX6_lose 37 = .ok (.bastore, 1) := by decide +kernel
theorem dX6_lose_38 : decode cX6_lose 38 = .ok (.iload_n 2, 1) := by decide +kernel
theorem dX6_lose_39 : decode cX6_lose 39 = .ok (.ireturn, 1) := by decide +kernel
theorem dX6_octet_0 : decode cX6_octet 0 = .ok (.aload_n 0, 1) := by decide +kernel
theorem dX6_octet_1 : decode cX6_octet 1 = .ok (.iconst 0, 1) := by decide +kernel
theorem dX6_octet_2 : decode cX6_octet 2 = .ok (.putfield 70, 3) := by decide +kernel
theorem dX6_octet_5 : decode cX6_octet 5 = .ok (.aload_n 0, 1) := by decide +kernel
theorem dX6_octet_6 : decode cX6_octet 6 = .ok (.iload_n 1, 1) := by decide +kernel
theorem dX6_octet_7 : decode cX6_octet 7 = .ok (.invokevirtual 200, 3) := by decide +kernel
theorem dX6_octet_10 : decode cX6_octet 10 = .ok (.ifCond .eq 27, 3) := by decide +kernel
theorem dX6_octet_13 : decode cX6_octet 13 = .ok (.iload_n 2, 1) := by decide +kernel
theorem dX6_octet_14 : decode cX6_octet 14 = .ok (.iconst 0, 1) := by decide +kernel
theorem dX6_octet_15 : decode cX6_octet 15 = .ok (.bipush 31, 2) := by decide +kernel
theorem dX6_octet_17 : decode cX6_octet 17 = .ok (.invokestatic 73, 3) := by decide +kernel
theorem dX6_octet_20 : decode cX6_octet 20 = .ok (.ifCond .eq 17, 3) := by decide +kernel
theorem dX6_octet_23 : decode cX6_octet 23 = .ok (.aload_n 0, 1) := by decide +kernel
theorem dX6_octet_24 : decode cX6_octet 24 = .ok (.getfield 7, 3) := by decide +kernel
theorem dX6_octet_27 : decode cX6_octet 27 = .ok (.bipush 32, 2) := by decide +kernel
theorem dX6_octet_29 : decode cX6_octet 29 = .ok (.iload_n 1, 1) := by decide +kernel
theorem dX6_octet_30 : decode cX6_octet 30 = .ok (.imul, 1) := by decide +kernel
theorem dX6_octet_31 : decode cX6_octet 31 = .ok (.iload_n 2, 1) := by decide +kernel
theorem dX6_octet_32 : decode cX6_octet 32 = .ok (.iadd, 1) := by decide +kernel
theorem dX6_octet_33 : decode cX6_octet 33 = .ok (.iaload, 1) := by decide +kernel
theorem dX6_octet_34 : decode cX6_octet 34 = .ok (.goto 5, 3) := by decide +kernel
theorem dX6_octet_37 : decode cX6_octet 37 = .ok (.bipush (-2), 2) := by decide +kernel
theorem dX6_octet_39 : decode cX6_octet 39 = .ok (.ireturn, 1) := by decide +kernel
theorem dX6_poke_0 : decode cX6_poke 0 = .ok (.aload_n 0, 1) := by decide +kernel
theorem dX6_poke_1 : decode cX6_poke 1 = .ok (.iconst 0, 1) := by decide +kernel
theorem dX6_poke_2 : decode cX6_poke 2 = .ok (.putfield 70, 3) := by decide +kernel
theorem dX6_poke_5 : decode cX6_poke 5 = .ok (.aload_n 0, 1) := by decide +kernel
theorem dX6_poke_6 : decode cX6_poke 6 = .ok (.iload_n 1, 1) := by decide +kernel
theorem dX6_poke_7 : decode cX6_poke 7 = .ok (.invokevirtual 200, 3) := by decide +kernel
theorem dX6_poke_10 : decode cX6_poke 10 = .ok (.ifCond .eq 24, 3) := by decide +kernel
theorem dX6_poke_13 : decode cX6_poke 13 = .ok (.iload_n 2, 1) := by decide +kernel
theorem dX6_poke_14 : decode cX6_poke 14 = .ok (.iconst 0, 1) := by decide +kernel
theorem dX6_poke_15 : decode cX6_poke 15 = .ok (.bipush 31, 2) := by decide +kernel
theorem dX6_poke_17 : decode cX6_poke 17 = .ok (.invokestatic 73, 3) := by decide +kernel
theorem dX6_poke_20 : decode cX6_poke 20 = .ok (.ifCond .eq 14, 3) := by decide +kernel
theorem dX6_poke_23 : decode cX6_poke 23 = .ok (.iload_n 3, 1) := by decide +kernel
theorem dX6_poke_24 : decode cX6_poke 24 = .ok (.iconst 0, 1) := by decide +kernel
theorem dX6_poke_25 : decode cX6_poke 25 = .ok (.sipush 255, 3) := by decide +kernel
theorem dX6_poke_28 : decode cX6_poke 28 = .ok (.invokestatic 73, 3) := by decide +kernel
theorem dX6_poke_31 : decode cX6_poke 31 = .ok (.ifCond .ne 6, 3) := by decide +kernel
theorem dX6_poke_34 : decode cX6_poke 34 = .ok (.bipush (-2), 2) := by decide +kernel
theorem dX6_poke_36 : decode cX6_poke 36 = .ok (.ireturn, 1) := by decide +kernel
theorem dX6_poke_37 : decode cX6_poke 37 = .ok (.aload_n 0, 1) := by decide +kernel
theorem dX6_poke_38 : decode cX6_poke 38 = .ok (.getfield 7, 3) := by decide +kernel
theorem dX6_poke_41 : decode cX6_poke 41 = .ok (.bipush 32, 2) := by decide +kernel
theorem dX6_poke_43 : decode cX6_poke 43 = .ok (.iload_n 1, 1) := by decide +kernel
theorem dX6_poke_44 : decode cX6_poke 44 = .ok (.imul, 1) := by decide +kernel
theorem dX6_poke_45 : decode cX6_poke 45 = .ok (.iload_n 2, 1) := by decide +kernel
theorem dX6_poke_46 : decode cX6_poke 46 = .ok (.iadd, 1) := by decide +kernel
theorem dX6_poke_47 : decode cX6_poke 47 = .ok (.aload_n 0, 1) := by decide +kernel
theorem dX6_poke_48 : decode cX6_poke 48 = .ok (.getfield 7, 3) := by decide +kernel
theorem dX6_poke_51 : decode cX6_poke 51 = .ok (.bipush 32, 2) := by decide +kernel
theorem dX6_poke_53 : decode cX6_poke 53 = .ok (.iload_n 1, 1) := by decide +kernel
theorem dX6_poke_54 : decode cX6_poke 54 = .ok (.imul, 1) := by decide +kernel
theorem dX6_poke_55 : decode cX6_poke 55 = .ok (.iload_n 2, 1) := by decide +kernel
theorem dX6_poke_56 : decode cX6_poke 56 = .ok (.iadd, 1) := by decide +kernel
theorem dX6_poke_57 : decode cX6_poke 57 = .ok (.iaload, 1) := by decide +kernel
theorem dX6_poke_58 : decode cX6_poke 58 = .ok (.iload_n 3, 1) := by decide +kernel
theorem dX6_poke_59 : decode cX6_poke 59 = .ok (.ixor, 1) := by decide +kernel
theorem dX6_poke_60 : decode cX6_poke 60 = .ok (.iastore, 1) := by decide +kernel
theorem dX6_poke_61 : decode cX6_poke 61 = .ok (.aload_n 0, 1) := by decide +kernel
theorem dX6_poke_62 : decode cX6_poke 62 = .ok (.getfield 7, 3) := by decide +kernel
theorem dX6_poke_65 : decode cX6_poke 65 = .ok (.bipush 32, 2) := by decide +kernel
theorem dX6_poke_67 : decode cX6_poke 67 = .ok (.iload_n 1, 1) := by decide +kernel
theorem dX6_poke_68 : decode cX6_poke 68 = .ok (.imul, 1) := by decide +kernel
theorem dX6_poke_69 : decode cX6_poke 69 = .ok (.iload_n 2, 1) := by decide +kernel
theorem dX6_poke_70 : decode cX6_poke 70 = .ok (.iadd, 1) := by decide +kernel
theorem dX6_poke_71 : decode cX6_poke 71 = .ok (.iaload, 1) := by decide +kernel
theorem dX6_poke_72 : decode cX6_poke 72 = .ok (.ireturn, 1) := by decide +kernel
end
section
theorem dX6_quotient_0 : decode cX6_quotient 0 = .ok (.iconst 0, 1) := by decide +kernel
theorem dX6_quotient_1 : decode cX6_quotient 1 = .ok (.istore_n 2, 1) := by decide +kernel
theorem dX6_quotient_2 : decode cX6_quotient 2 = .ok (.iload_n 2, 1) := by decide +kernel
theorem dX6_quotient_3 : decode cX6_quotient 3 = .ok (.iload_n 1, 1) := by decide +kernel
theorem dX6_quotient_4 : decode cX6_quotient 4 = .ok (.invokestatic 138, 3) := by decide +kernel
theorem dX6_quotient_7 : decode cX6_quotient 7 = .ok (.iload_n 0, 1) := by decide +kernel
theorem dX6_quotient_8 : decode cX6_quotient 8 = .ok (.if_icmp .eq 9, 3) := by decide +kernel
theorem dX6_quotient_11 : decode cX6_quotient 11 = .ok (.iinc 2 1, 3) := by decide +kernel
theorem dX6_quotient_14 : decode cX6_quotient 14 = .ok (.goto (-12), 3) := by decide +kernel
theorem dX6_quotient_17 : decode cX6_quotient 17 = .ok (.iload_n 2, 1) := by decide +kernel
theorem dX6_quotient_18 : decode cX6_quotient 18 = .ok (.ireturn, 1) := by decide +kernel
theorem dX6_sectorOf_0 : decode cX6_sectorOf 0 = .ok (.iconst (-1), 1) := by decide +kernel
theorem dX6_sectorOf_1 : decode cX6_sectorOf 1 = .ok (.istore_n 2, 1) := by decide +kernel
theorem dX6_sectorOf_2 : decode cX6_sectorOf 2 = .ok (.iconst 2, 1) := by decide +kernel
theorem dX6_sectorOf_3 : decode cX6_sectorOf 3 = .ok (.istore_n 3, 1) := by decide +kernel
theorem dX6_sectorOf_4 : decode cX6_sectorOf 4 = .ok (.iload_n 3, 1) := by decide +kernel
theorem dX6_sectorOf_5 : decode cX6_sectorOf 5 = .ok (.aload_n 0, 1) := by decide +kernel
theorem dX6_sectorOf_6 : decode cX6_sectorOf 6 = .ok (.getfield 21, 3) := by decide +kernel
theorem dX6_sectorOf_9 : decode cX6_sectorOf 9 = .ok (.if_icmp .ge 55, 3) := by decide +kernel
theorem dX6_sectorOf_12 : decode cX6_sectorOf 12 = .ok (.aload_n 0, 1) := by decide +kernel
theorem dX6_sectorOf_13 : decode cX6_sectorOf 13 = .ok (.iload_n 3, 1) := by decide +kernel
theorem dX6_sectorOf_14 : decode cX6_sectorOf 14 = .ok (.invokevirtual 86, 3) := by decide +kernel
theorem dX6_sectorOf_17 : decode cX6_sectorOf 17 = .ok (.iconst 3, 1) := by decide +kernel
theorem dX6_sectorOf_18 : decode cX6_sectorOf 18 = .ok (.if_icmp .ne 38, 3) := by decide +kernel
theorem dX6_sectorOf_21 : decode cX6_sectorOf 21 = .ok (.aload_n 0, 1) := by decide +kernel
theorem dX6_sectorOf_22 : decode cX6_sectorOf 22 = .ok (.getfield 7, 3) := by decide +kernel
theorem dX6_sectorOf_25 : decode cX6_sectorOf 25 = .ok (.bipush 32, 2) := by decide +kernel
theorem dX6_sectorOf_27 : decode cX6_sectorOf 27 = .ok (.iload_n 3, 1) := by decide +kernel
theorem dX6_sectorOf_28 : decode cX6_sectorOf 28 = .ok (.imul, 1) := by decide +kernel
theorem dX6_sectorOf_29 : decode cX6_sectorOf 29 = .ok (.iconst 2, 1) := by decide +kernel
theorem dX6_sectorOf_30 : decode cX6_sectorOf 30 = .ok (.iadd, 1) := by decide +kernel
theorem dX6_sectorOf_31 : decode cX6_sectorOf 31 = .ok (.iaload, 1) := by decide +kernel
theorem dX6_sectorOf_32 : decode cX6_sectorOf 32 = .ok (.iload_n 1, 1) := by decide +kernel
theorem dX6_sectorOf_33 : decode cX6_sectorOf 33 = .ok (.if_icmp .ne 23, 3) := by decide +kernel
theorem dX6_sectorOf_36 : decode cX6_sectorOf 36 = .ok (.aload_n 0, 1) := by decide +kernel
theorem dX6_sectorOf_37 : decode cX6_sectorOf 37 = .ok (.getfield 7, 3) := by decide +kernel
theorem dX6_sectorOf_40 : decode cX6_sectorOf 40 = .ok (.bipush 32, 2) := by decide +kernel
theorem dX6_sectorOf_42 : decode cX6_sectorOf 42 = .ok (.iload_n 3, 1) := by decide +kernel
theorem dX6_sectorOf_43 : decode cX6_sectorOf 43 = .ok (.imul, 1) := by decide +kernel
theorem dX6_sectorOf_44 : decode cX6_sectorOf 44 = .ok (.iconst 3, 1) := by decide +kernel
theorem dX6_sectorOf_45 : decode cX6_sectorOf 45 = .ok (.iadd, 1) := by decide +kernel
theorem dX6_sectorOf_46 : decode cX6_sectorOf 46 = .ok (.iaload, 1) := by decide +kernel
theorem dX6_sectorOf_47 : decode cX6_sectorOf 47 = .ok (.bipush 96, 2) := by decide +kernel
theorem dX6_sectorOf_49 : decode cX6_sectorOf 49 = .ok (.if_icmp .gt 7, 3) := by decide +kernel
theorem dX6_sectorOf_52 : decode cX6_sectorOf 52 = .ok (.iload_n 3, 1) := by decide +kernel
theorem dX6_sectorOf_53 : decode cX6_sectorOf 53 = .ok (.goto 4, 3) := by decide +kernel
theorem dX6_sectorOf_56 : decode cX6_sectorOf 56 = .ok (.iload_n 2, 1) := by decide +kernel
theorem dX6_sectorOf_57 : decode cX6_sectorOf 57 = .ok (.istore_n 2, 1) := by decide +kernel
theorem dX6_sectorOf_58 : decode cX6_sectorOf 58 = .ok (.iinc 3 1, 3) := by decide +kernel
theorem dX6_sectorOf_61 : decode cX6_sectorOf 61 = .ok (.goto (-57), 3) := by decide +kernel
theorem dX6_sectorOf_64 : decode cX6_sectorOf 64 = .ok (.iload_n 2, 1) := by decide +kernel
theorem dX6_sectorOf_65 : decode cX6_sectorOf 65 = .ok (.ireturn, 1) := by decide +kernel
theorem dX6_symbolOf_0 : decode cX6_symbolOf 0 = .ok (.iconst (-1), 1) := by decide +kernel
theorem dX6_symbolOf_1 : decode cX6_symbolOf 1 = .ok (.istore_n 3, 1) := by decide +kernel
theorem dX6_symbolOf_2 : decode cX6_symbolOf 2 = .ok (.iconst 2, 1) := by decide +kernel
theorem dX6_symbolOf_3 : decode cX6_symbolOf 3 = .ok (.istore 4, 2) := by decide +kernel
theorem dX6_symbolOf_5 : decode cX6_symbolOf 5 = .ok (.iload 4, 2) := by decide +kernel
theorem dX6_symbolOf_7 : decode cX6_symbolOf 7 = .ok (.aload_n 0, 1) := by decide +kernel
theorem dX6_symbolOf_8 : decode cX6_symbolOf 8 = .ok (.getfield 21, 3) := by decide +kernel
theorem dX6_symbolOf_11 : decode cX6_symbolOf 11 = .ok (.if_icmp .ge 58, 3) := by decide +kernel
theorem dX6_symbolOf_14 : decode cX6_symbolOf 14 = .ok (.aload_n 0, 1) := by decide +kernel
theorem dX6_symbolOf_15 : decode cX6_symbolOf 15 = .ok (.iload 4, 2) := by decide +kernel
theorem dX6_symbolOf_17 : decode cX6_symbolOf 17 = .ok (.invokevirtual 86, 3) := by decide +kernel
theorem dX6_symbolOf_20 : decode cX6_symbolOf 20 = .ok (.iconst 4, 1) := by decide +kernel
theorem dX6_symbolOf_21 : decode cX6_symbolOf 21 = .ok (.if_icmp .ne 40, 3) := by decide +kernel
theorem dX6_symbolOf_24 : decode cX6_symbolOf 24 = .ok (.aload_n 0, 1) := by decide +kernel
theorem dX6_symbolOf_25 : decode cX6_symbolOf 25 = .ok (.getfield 7, 3) := by decide +kernel
theorem dX6_symbolOf_28 : decode cX6_symbolOf 28 = .ok (.bipush 32, 2) := by decide +kernel
theorem dX6_symbolOf_30 : decode cX6_symbolOf 30 = .ok (.iload 4, 2) := by decide +kernel
theorem dX6_symbolOf_32 : decode cX6_symbolOf 32 = .ok (.imul, 1) := by decide +kernel
theorem dX6_symbolOf_33 : decode cX6_symbolOf 33 = .ok (.iconst 1, 1) := by decide +kernel
theorem dX6_symbolOf_34 : decode cX6_symbolOf 34 = .ok (.iadd, 1) := by decide +kernel
theorem dX6_symbolOf_35 : decode cX6_symbolOf 35 = .ok (.iaload, 1) := by decide +kernel
theorem dX6_symbolOf_36 : decode cX6_symbolOf 36 = .ok (.iload_n 1, 1) := by decide +kernel
theorem dX6_symbolOf_37 : decode cX6_symbolOf 37 = .ok (.if_icmp .ne 24, 3) := by decide +kernel
theorem dX6_symbolOf_40 : decode cX6_symbolOf 40 = .ok (.aload_n 0, 1) := by decide +kernel
theorem dX6_symbolOf_41 : decode cX6_symbolOf 41 = .ok (.getfield 7, 3) := by decide +kernel
theorem dX6_symbolOf_44 : decode cX6_symbolOf 44 = .ok (.bipush 32, 2) := by decide +kernel
theorem dX6_symbolOf_46 : decode cX6_symbolOf 46 = .ok (.iload 4, 2) := by decide +kernel
theorem dX6_symbolOf_48 : decode cX6_symbolOf 48 = .ok (.imul, 1) := by decide +kernel
theorem dX6_symbolOf_49 : decode cX6_symbolOf 49 = .ok (.iconst 2, 1) := by decide +kernel
theorem dX6_symbolOf_50 : decode cX6_symbolOf 50 = .ok (.iadd, 1) := by decide +kernel
theorem dX6_symbolOf_51 : decode cX6_symbolOf 51 = .ok (.iaload, 1) := by decide +kernel
theorem dX6_symbolOf_52 : decode cX6_symbolOf 52 = .ok (.iload_n 2, 1) := by decide +kernel
theorem dX6_symbolOf_53 : decode cX6_symbolOf 53 = .ok (.if_icmp .ne 8, 3) := by decide +kernel
theorem dX6_symbolOf_56 : decode cX6_symbolOf 56 = .ok (.iload 4, 2) := by decide +kernel
theorem dX6_symbolOf_58 : decode cX6_symbolOf 58 = .ok (.goto 4, 3) := by decide +kernel
theorem dX6_symbolOf_61 : decode cX6_symbolOf 61 = .ok (.iload_n 3, 1) := by decide +kernel
theorem dX6_symbolOf_62 : decode cX6_symbolOf 62 = .ok (.istore_n 3, 1) := by decide +kernel
theorem dX6_symbolOf_63 : decode cX6_symbolOf 63 = .ok (.iinc 4 1, 3) := by decide +kernel
theorem dX6_symbolOf_66 : decode cX6_symbolOf 66 = .ok (.goto (-61), 3) := by decide +kernel
theorem dX6_symbolOf_69 : decode cX6_symbolOf 69 = .ok (.iload_n 3, 1) := by decide +kernel
theorem dX6_symbolOf_70 : decode cX6_symbolOf 70 = .ok (.ireturn, 1) := by decide +kernel
theorem dX6_whole_0 : decode cX6_whole 0 = .ok (.aload_n 0, 1) := by decide +kernel
theorem dX6_whole_1 : decode cX6_whole 1 = .ok (.iconst 0, 1) := by decide +kernel
theorem dX6_whole_2 : decode cX6_whole 2 = .ok (.putfield 70, 3) := by decide +kernel
theorem dX6_whole_5 : decode cX6_whole 5 = .ok (.aload_n 0, 1) := by decide +kernel
theorem dX6_whole_6 : decode cX6_whole 6 = .ok (.iload_n 1, 1) := by decide +kernel
theorem dX6_whole_7 : decode cX6_whole 7 = .ok (.invokevirtual 200, 3) := by decide +kernel
theorem dX6_whole_10 : decode cX6_whole 10 = .ok (.ifCond .eq 11, 3) := by decide +kernel
theorem dX6_whole_13 : decode cX6_whole 13 = .ok (.aload_n 0, 1) := by decide +kernel
theorem dX6_whole_14 : decode cX6_whole 14 = .ok (.iload_n 1, 1) := by decide +kernel
theorem dX6_whole_15 : decode cX6_whole 15 = .ok (.invokevirtual 86, 3) := by decide +kernel
theorem dX6_whole_18 : decode cX6_whole 18 = .ok (.goto 5, 3) := by decide +kernel
theorem dX6_whole_21 : decode cX6_whole 21 = .ok (.bipush (-2), 2) := by decide +kernel
theorem dX6_whole_23 : decode cX6_whole 23 = .ok (.ireturn, 1) := by decide +kernel
theorem dX6_write_0 : decode cX6_write 0 = .ok (.aload_n 0, 1) := by decide +kernel
theorem dX6_write_1 : decode cX6_write 1 = .ok (.invokevirtual 90, 3) := by decide +kernel
theorem dX6_write_4 : decode cX6_write 4 = .ok (.aload_n 0, 1) := by decide +kernel
theorem dX6_write_5 : decode cX6_write 5 = .ok (.getfield 31, 3) := by decide +kernel
theorem dX6_write_8 : decode cX6_write 8 = .ok (.aload_n 0, 1) := by decide +kernel
theorem dX6_write_9 : decode cX6_write 9 = .ok (.getfield 93, 3) := by decide +kernel
theorem dX6_write_12 : decode cX6_write 12 = .ok (.iload_n 1, 1) := by decide +kernel
theorem dX6_write_13 : decode cX6_write 13 = .ok (.iastore, 1) := by decide +kernel
theorem dX6_write_14 : decode cX6_write 14 = .ok (.aload_n 0, 1) := by decide +kernel
theorem dX6_write_15 : decode cX6_write 15 = .ok (.getfield 37, 3) := by decide +kernel
theorem dX6_write_18 : decode cX6_write 18 = .ok (.aload_n 0, 1) := by decide +kernel
theorem dX6_write_19 : decode cX6_write 19 = .ok (.getfield 93, 3) := by decide +kernel
theorem dX6_write_22 : decode cX6_write 22 = .ok (.aload_n 0, 1) := by decide +kernel
theorem dX6_write_23 : decode cX6_write 23 = .ok (.getfield 13, 3) := by decide +kernel
theorem dX6_write_26 : decode cX6_write 26 = .ok (.iload_n 1, 1) := by decide +kernel
theorem dX6_write_27 : decode cX6_write 27 = .ok (.baload, 1) := by decide +kernel
theorem dX6_write_28 : decode cX6_write 28 = .ok (.bastore, 1) := by decide +kernel
theorem dX6_write_29 : decode cX6_write 29 = .ok (.iconst 0, 1) := by decide +kernel
theorem dX6_write_30 : decode cX6_write 30 = .ok (.istore_n 2, 1) := by decide +kernel
theorem dX6_write_31 : decode cX6_write 31 = .ok (.iload_n 2, 1) := by decide +kernel
theorem dX6_write_32 : decode cX6_write 32 = .ok (.bipush 32, 2) := by decide +kernel
theorem dX6_write_34 : decode cX6_write 34 = .ok (.if_icmp .ge 51, 3) := by decide +kernel
theorem dX6_write_37 : decode cX6_write 37 = .ok (.aload_n 0, 1) := by decide +kernel
theorem dX6_write_38 : decode cX6_write 38 = .ok (.getfield 34, 3) := by decide +kernel
theorem dX6_write_41 : decode cX6_write 41 = .ok (.bipush 32, 2) := by decide +kernel
theorem dX6_write_43 : decode cX6_write 43 = .ok (.aload_n 0, 1) := by decide +kernel
theorem dX6_write_44 : decode cX6_write 44 = .ok (.getfield 93, 3) := by decide +kernel
theorem dX6_write_47 : decode cX6_write 47 = .ok (.imul, 1) := by decide +kernel
theorem dX6_write_48 : decode cX6_write 48 = .ok (.iload_n 2, 1) := by decide +kernel
theorem dX6_write_49 : decode cX6_write 49 = .ok (.iadd, 1) := by decide +kernel
theorem dX6_write_50 : decode cX6_write 50 = .ok (.aload_n 0, 1) := by decide +kernel
theorem dX6_write_51 : decode cX6_write 51 = .ok (.getfield 7, 3) := by decide +kernel
theorem dX6_write_54 : decode cX6_write 54 = .ok (.bipush 32, 2) := by decide +kernel
theorem dX6_write_56 : decode cX6_write 56 = .ok (.iload_n 1, 1) := by decide +kernel
theorem dX6_write_57 : decode cX6_write 57 = .ok (.imul, 1) := by decide +kernel
theorem dX6_write_58 : decode cX6_write 58 = .ok (.iload_n 2, 1) := by decide +kernel
theorem dX6_write_59 : decode cX6_write 59 = .ok (.iadd, 1) := by decide +kernel
theorem dX6_write_60 : decode cX6_write 60 = .ok (.iaload, 1) := by decide +kernel
theorem dX6_write_61 : decode cX6_write 61 = .ok (.iastore, 1) := by decide +kernel
theorem dX6_write_62 : decode cX6_write 62 = .ok (.aload_n 0, 1) := by decide +kernel
theorem dX6_write_63 : decode cX6_write 63 = .ok (.getfield 7, 3) := by decide +kernel
theorem dX6_write_66 : decode cX6_write 66 = .ok (.bipush 32, 2) := by decide +kernel
theorem dX6_write_68 : decode cX6_write 68 = .ok (.iload_n 1, 1) := by decide +kernel
theorem dX6_write_69 : decode cX6_write 69 = .ok (.imul, 1) := by decide +kernel
theorem dX6_write_70 : decode cX6_write 70 = .ok (.iload_n 2, 1) := by decide +kernel
theorem dX6_write_71 : decode cX6_write 71 = .ok (.iadd, 1) := by decide +kernel
theorem dX6_write_72 : decode cX6_write 72 = .ok (.aload_n 0, 1) := by decide +kernel
theorem dX6_write_73 : decode cX6_write 73 = .ok (.getfield 40, 3) := by decide +kernel
theorem dX6_write_76 : decode cX6_write 76 = .ok (.iload_n 2, 1) := by decide +kernel
theorem dX6_write_77 : decode cX6_write 77 = .ok (.iaload, 1) := by decide +kernel
theorem dX6_write_78 : decode cX6_write 78 = .ok (.iastore, 1) := by decide +kernel
theorem dX6_write_79 : decode cX6_write 79 = .ok (.iinc 2 1, 3) := by decide +kernel
theorem dX6_write_82 : decode cX6_write 82 = .ok (.goto (-51), 3) := by decide +kernel
theorem dX6_write_85 : decode cX6_write 85 = .ok (.aload_n 0, 1) := by decide +kernel
theorem dX6_write_86 : decode cX6_write 86 = .ok (.getfield 13, 3) := by decide +kernel
theorem dX6_write_89 : decode cX6_write 89 = .ok (.iload_n 1, 1) := by decide +kernel
theorem dX6_write_90 : decode cX6_write 90 = .ok (.iconst 0, 1) := by decide +kernel
theorem dX6_write_91 : decode cX6_write 91 = .ok (.bastore, 1) := by decide +kernel
theorem dX6_write_92 : decode cX6_write 92 = .ok (.aload_n 0, 1) := by decide +kernel
theorem dX6_write_93 : decode cX6_write 93 = .ok (.dup, 1) := by decide +kernel
theorem dX6_write_94 : decode cX6_write 94 = .ok (.getfield 93, 3) := by decide +kernel
theorem dX6_write_97 : decode cX6_write 97 = .ok (.iconst 1, 1) := by decide +kernel
theorem dX6_write_98 : decode cX6_write 98 = .ok (.iadd, 1) := by decide +kernel
theorem dX6_write_99 : decode cX6_write 99 = .ok (.putfield 93, 3) := by decide +kernel
theorem dX6_write_102 : decode cX6_write 102 = .ok (.return_, 1) := by decide +kernel
theorem dX6_append_0 : decode cX6_append 0 = .ok (.aload_n 0, 1) := by decide +kernel
theorem dX6_append_1 : decode cX6_append 1 = .ok (.aload_n 0, 1) := by decide +kernel
theorem dX6_append_2 : decode cX6_append 2 = .ok (.getfield 21, 3) := by decide +kernel
theorem dX6_append_5 : decode cX6_append 5 = .ok (.invokevirtual 96, 3) := by decide +kernel
theorem dX6_append_8 : decode cX6_append 8 = .ok (.aload_n 0, 1) := by decide +kernel
theorem dX6_append_9 : decode cX6_append 9 = .ok (.dup, 1) := by decide +kernel
theorem dX6_append_10 : decode cX6_append 10 = .ok (.getfield 21, 3) := by decide +kernel
theorem dX6_append_13 : decode cX6_append 13 = .ok (.iconst 1, 1) := by decide +kernel
theorem dX6_append_14 : decode cX6_append 14 = .ok (.iadd, 1) := by decide +kernel
theorem dX6_append_15 : decode cX6_append 15 = .ok (.putfield 21, 3) := by decide +kernel
theorem dX6_append_18 : decode cX6_append 18 = .ok (.aload_n 0, 1) := by decide +kernel
theorem dX6_append_19 : decode cX6_append 19 = .ok (.getfield 21, 3) := by decide +kernel
theorem dX6_append_22 : decode cX6_append 22 = .ok (.iconst 1, 1) := by decide +kernel
theorem dX6_append_23 : decode cX6_append 23 = .ok (.isub, 1) := by decide +kernel
theorem dX6_append_24 : decode cX6_append 24 = .ok (.ireturn, 1) := by decide +kernel
theorem dX6_at_0 : decode cX6_at 0 = .ok (.aload_n 0, 1) := by decide +kernel
theorem dX6_at_1 : decode cX6_at 1 = .ok (.iconst 0, 1) := by decide +kernel
theorem dX6_at_2 : decode cX6_at 2 = .ok (.putfield 70, 3) := by decide +kernel
theorem dX6_at_5 : decode cX6_at 5 = .ok (.aload_n 0, 1) := by decide +kernel
theorem dX6_at_6 : decode cX6_at 6 = .ok (.iload_n 1, 1) := by decide +kernel
theorem dX6_at_7 : decode cX6_at 7 = .ok (.invokevirtual 141, 3) := by decide +kernel
theorem dX6_at_10 : decode cX6_at 10 = .ok (.ifCond .ne 6, 3) := by decide +kernel
theorem dX6_at_13 : decode cX6_at 13 = .ok (.bipush (-2), 2) := by decide +kernel
theorem dX6_at_15 : decode cX6_at 15 = .ok (.ireturn, 1) := by decide +kernel
theorem dX6_at_16 : decode cX6_at 16 = .ok (.aload_n 0, 1) := by decide +kernel
theorem dX6_at_17 : decode cX6_at 17 = .ok (.getfield 17, 3) := by decide +kernel
theorem dX6_at_20 : decode cX6_at 20 = .ok (.ifCond .eq 11, 3) := by decide +kernel
theorem dX6_at_23 : decode cX6_at 23 = .ok (.aload_n 0, 1) := by decide +kernel
theorem dX6_at_24 : decode cX6_at 24 = .ok (.iload_n 1, 1) := by decide +kernel
theorem dX6_at_25 : decode cX6_at 25 = .ok (.invokevirtual 144, 3) := by decide +kernel
theorem dX6_at_28 : decode cX6_at 28 = .ok (.goto 4, 3) := by decide +kernel
theorem dX6_at_31 : decode cX6_at 31 = .ok (.iconst (-1), 1) := by decide +kernel
theorem dX6_at_32 : decode cX6_at 32 = .ok (.istore_n 3, 1) := by decide +kernel
theorem dX6_at_33 : decode cX6_at 33 = .ok (.iload_n 3, 1) := by decide +kernel
theorem dX6_at_34 : decode cX6_at 34 = .ok (.iconst (-1), 1) := by decide +kernel
theorem dX6_at_35 : decode cX6_at 35 = .ok (.if_icmp .ne 6, 3) := by decide +kernel
theorem dX6_at_38 : decode cX6_at 38 = .ok (.bipush (-3), 2) := by decide +kernel
theorem dX6_at_40 : decode cX6_at 40 = .ok (.ireturn, 1) := by decide +kernel
theorem dX6_at_41 : decode cX6_at 41 = .ok (.iload_n 2, 1) := by decide +kernel
theorem dX6_at_42 : decode cX6_at 42 = .ok (.ifCond .lt 12, 3) := by decide +kernel
theorem dX6_at_45 : decode cX6_at 45 = .ok (.iload_n 2, 1) := by decide +kernel
theorem dX6_at_46 : decode cX6_at 46 = .ok (.aload_n 0, 1) := by decide +kernel
theorem dX6_at_47 : decode cX6_at 47 = .ok (.iload_n 3, 1) := by decide +kernel
theorem dX6_at_48 : decode cX6_at 48 = .ok (.invokevirtual 103, 3) := by decide +kernel
theorem dX6_at_51 : decode cX6_at 51 = .ok (.if_icmp .lt 10, 3) := by decide +kernel
theorem dX6_at_54 : decode cX6_at 54 = .ok (.aload_n 0, 1) := by decide +kernel
theorem dX6_at_55 : decode cX6_at 55 = .ok (.iconst 1, 1) := by decide +kernel
theorem dX6_at_56 : decode cX6_at 56 = .ok (.putfield 70, 3) := by decide +kernel
theorem dX6_at_59 : decode cX6_at 59 = .ok (.iconst 0, 1) := by decide +kernel
theorem dX6_at_60 : decode cX6_at 60 = .ok (.ireturn, 1) := by decide +kernel
theorem dX6_at_61 : decode cX6_at 61 = .ok (.aload_n 0, 1) := by decide +kernel
theorem dX6_at_62 : decode cX6_at 62 = .ok (.iload_n 3, 1) := by decide +kernel
theorem dX6_at_63 : decode cX6_at 63 = .ok (.iload_n 2, 1) := by decide +kernel
theorem dX6_at_64 : decode cX6_at 64 = .ok (.bipush 24, 2) := by decide +kernel
theorem dX6_at_66 : decode cX6_at 66 = .ok (.idiv, 1) := by decide +kernel
theorem dX6_at_67 : decode cX6_at 67 = .ok (.invokevirtual 109, 3) := by decide +kernel
theorem dX6_at_70 : decode cX6_at 70 = .ok (.istore 4, 2) := by decide +kernel
theorem dX6_at_72 : decode cX6_at 72 = .ok (.aload_n 0, 1) := by decide +kernel
theorem dX6_at_73 : decode cX6_at 73 = .ok (.iload 4, 2) := by decide +kernel
theorem dX6_at_75 : decode cX6_at 75 = .ok (.invokevirtual 113, 3) := by decide +kernel
theorem dX6_at_78 : decode cX6_at 78 = .ok (.ifCond .eq 23, 3) := by decide +kernel
theorem dX6_at_81 : decode cX6_at 81 = .ok (.aload_n 0, 1) := by decide +kernel
theorem dX6_at_82 : decode cX6_at 82 = .ok (.getfield 7, 3) := by decide +kernel
theorem dX6_at_85 : decode cX6_at 85 = .ok (.bipush 32, 2) := by decide +kernel
theorem dX6_at_87 : decode cX6_at 87 = .ok (.iload 4, 2) := by decide +kernel
theorem dX6_at_89 : decode cX6_at 89 = .ok (.imul, 1) := by decide +kernel
theorem dX6_at_90 : decode cX6_at 90 = .ok (.iconst 4, 1) := by decide +kernel
theorem dX6_at_91 : decode cX6_at 91 = .ok (.iadd, 1) := by decide +kernel
theorem dX6_at_92 : decode cX6_at 92 = .ok (.iload_n 2, 1) := by decide +kernel
theorem dX6_at_93 : decode cX6_at 93 = .ok (.bipush 24, 2) := by decide +kernel
theorem dX6_at_95 : decode cX6_at 95 = .ok (.irem, 1) := by decide +kernel
theorem dX6_at_96 : decode cX6_at 96 = .ok (.iadd, 1) := by decide +kernel
theorem dX6_at_97 : decode cX6_at 97 = .ok (.iaload, 1) := by decide +kernel
theorem dX6_at_98 : decode cX6_at 98 = .ok (.goto 5, 3) := by decide +kernel
theorem dX6_at_101 : decode cX6_at 101 = .ok (.bipush (-5), 2) := by decide +kernel
theorem dX6_at_103 : decode cX6_at 103 = .ok (.ireturn, 1) := by decide +kernel
theorem dX6_cut_0 : decode cX6_cut 0 = .ok (.aload_n 0, 1) := by decide +kernel
theorem dX6_cut_1 : decode cX6_cut 1 = .ok (.iconst 0, 1) := by decide +kernel
theorem dX6_cut_2 : decode cX6_cut 2 = .ok (.putfield 70, 3) := by decide +kernel
theorem dX6_cut_5 : decode cX6_cut 5 = .ok (.iload_n 2, 1) := by decide +kernel
theorem dX6_cut_6 : decode cX6_cut 6 = .ok (.iconst 1, 1) := by decide +kernel
theorem dX6_cut_7 : decode cX6_cut 7 = .ok (.bipush 31, 2) := by decide +kernel
theorem dX6_cut_9 : decode cX6_cut 9 = .ok (.invokestatic 73, 3) := by decide +kernel
theorem dX6_cut_12 : decode cX6_cut 12 = .ok (.ifCond .eq 15, 3) := by decide +kernel
theorem dX6_cut_15 : decode cX6_cut 15 = .ok (.iload_n 1, 1) := by decide +kernel
theorem dX6_cut_16 : decode cX6_cut 16 = .ok (.iconst 0, 1) := by decide +kernel
theorem dX6_cut_17 : decode cX6_cut 17 = .ok (.aload_n 0, 1) := by decide +kernel
theorem dX6_cut_18 : decode cX6_cut 18 = .ok (.getfield 93, 3) := by decide +kernel
theorem dX6_cut_21 : decode cX6_cut 21 = .ok (.invokestatic 73, 3) := by decide +kernel
theorem dX6_cut_24 : decode cX6_cut 24 = .ok (.ifCond .ne 6, 3) := by decide +kernel
theorem dX6_cut_27 : decode cX6_cut 27 = .ok (.bipush (-2), 2) := by decide +kernel
theorem dX6_cut_29 : decode cX6_cut 29 = .ok (.ireturn, 1) := by decide +kernel
theorem dX6_cut_30 : decode cX6_cut 30 = .ok (.aload_n 0, 1) := by decide +kernel
theorem dX6_cut_31 : decode cX6_cut 31 = .ok (.getfield 17, 3) := by decide +kernel
theorem dX6_cut_34 : decode cX6_cut 34 = .ok (.ifCond .ne 6, 3) := by decide +kernel
theorem dX6_cut_37 : decode cX6_cut 37 = .ok (.bipush (-3), 2) := by decide +kernel
theorem dX6_cut_39 : decode cX6_cut 39 = .ok (.ireturn, 1) := by decide +kernel
theorem dX6_cut_40 : decode cX6_cut 40 = .ok (.iload_n 1, 1) := by decide +kernel
theorem dX6_cut_41 : decode cX6_cut 41 = .ok (.aload_n 0, 1) := by decide +kernel
theorem dX6_cut_42 : decode cX6_cut 42 = .ok (.getfield 93, 3) := by decide +kernel
theorem dX6_cut_45 : decode cX6_cut 45 = .ok (.if_icmp .ne 25, 3) := by decide +kernel
theorem dX6_cut_48 : decode cX6_cut 48 = .ok (.aload_n 0, 1) := by decide +kernel
theorem dX6_cut_49 : decode cX6_cut 49 = .ok (.aload_n 0, 1) := by decide +kernel
theorem dX6_cut_50 : decode cX6_cut 50 = .ok (.getfield 153, 3) := by decide +kernel
theorem dX6_cut_53 : decode cX6_cut 53 = .ok (.iconst 1, 1) := by decide +kernel
theorem dX6_cut_54 : decode cX6_cut 54 = .ok (.iadd, 1) := by decide +kernel
theorem dX6_cut_55 : decode cX6_cut 55 = .ok (.invokevirtual 156, 3) := by decide +kernel
theorem dX6_cut_58 : decode cX6_cut 58 = .ok (.aload_n 0, 1) := by decide +kernel
theorem dX6_cut_59 : decode cX6_cut 59 = .ok (.aload_n 0, 1) := by decide +kernel
theorem dX6_cut_60 : decode cX6_cut 60 = .ok (.getfield 153, 3) := by decide +kernel
theorem dX6_cut_63 : decode cX6_cut 63 = .ok (.iconst 1, 1) := by decide +kernel
theorem dX6_cut_64 : decode cX6_cut 64 = .ok (.iadd, 1) := by decide +kernel
theorem dX6_cut_65 : decode cX6_cut 65 = .ok (.iconst 1, 1) := by decide +kernel
theorem dX6_cut_66 : decode cX6_cut 66 = .ok (.iand, 1) := by decide +kernel
theorem dX6_cut_67 : decode cX6_cut 67 = .ok (.invokevirtual 96, 3) := by decide +kernel
theorem dX6_cut_70 : decode cX6_cut 70 = .ok (.aload_n 0, 1) := by decide +kernel
theorem dX6_cut_71 : decode cX6_cut 71 = .ok (.getfield 93, 3) := by decide +kernel
theorem dX6_cut_74 : decode cX6_cut 74 = .ok (.iconst 1, 1) := by decide +kernel
theorem dX6_cut_75 : decode cX6_cut 75 = .ok (.isub, 1) := by decide +kernel
theorem dX6_cut_76 : decode cX6_cut 76 = .ok (.istore_n 3, 1) := by decide +kernel
theorem dX6_cut_77 : decode cX6_cut 77 = .ok (.iload_n 3, 1) := by decide +kernel
theorem dX6_cut_78 : decode cX6_cut 78 = .ok (.iload_n 1, 1) := by decide +kernel
theorem dX6_cut_79 : decode cX6_cut 79 = .ok (.if_icmp .lt 93, 3) := by decide +kernel
theorem dX6_cut_82 : decode cX6_cut 82 = .ok (.aload_n 0, 1) := by decide +kernel
theorem dX6_cut_83 : decode cX6_cut 83 = .ok (.getfield 31, 3) := by decide +kernel
theorem dX6_cut_86 : decode cX6_cut 86 = .ok (.iload_n 3, 1) := by decide +kernel
theorem dX6_cut_87 : decode cX6_cut 87 = .ok (.iaload, 1) := by decide +kernel
theorem dX6_cut_88 : decode cX6_cut 88 = .ok (.istore 4, 2) := by decide +kernel
theorem dX6_cut_90 : decode cX6_cut 90 = .ok (.iload_n 3, 1) := by decide +kernel
theorem dX6_cut_91 : decode cX6_cut 91 = .ok (.iload_n 1, 1) := by decide +kernel
theorem dX6_cut_92 : decode cX6_cut 92 = .ok (.if_icmp .ne 7, 3) := by decide +kernel
theorem dX6_cut_95 : decode cX6_cut 95 = .ok (.iload_n 2, 1) := by decide +kernel
theorem dX6_cut_96 : decode cX6_cut 96 = .ok (.goto 4, 3) := by decide +kernel
theorem dX6_cut_99 : decode cX6_cut 99 = .ok (.iconst 0, 1) := by decide +kernel
theorem dX6_cut_100 : decode cX6_cut 100 = .ok (.istore 5, 2) := by decide +kernel
theorem dX6_cut_102 : decode cX6_cut 102 = .ok (.iload 5, 2) := by decide +kernel
theorem dX6_cut_104 : decode cX6_cut 104 = .ok (.bipush 32, 2) := by decide +kernel
theorem dX6_cut_106 : decode cX6_cut 106 = .ok (.if_icmp .ge 34, 3) := by decide +kernel
theorem dX6_cut_109 : decode cX6_cut 109 = .ok (.aload_n 0, 1) := by decide +kernel
theorem dX6_cut_110 : decode cX6_cut 110 = .ok (.getfield 7, 3) := by decide +kernel
theorem dX6_cut_113 : decode cX6_cut 113 = .ok (.bipush 32, 2) := by decide +kernel
theorem dX6_cut_115 : decode cX6_cut 115 = .ok (.iload 4, 2) := by decide +kernel
theorem dX6_cut_117 : decode cX6_cut 117 = .ok (.imul, 1) := by decide +kernel
theorem dX6_cut_118 : decode cX6_cut 118 = .ok (.iload 5, 2) := by decide +kernel
theorem dX6_cut_120 : decode cX6_cut 120 = .ok (.iadd, 1) := by decide +kernel
theorem dX6_cut_121 : decode cX6_cut 121 = .ok (.aload_n 0, 1) := by decide +kernel
theorem dX6_cut_122 : decode cX6_cut 122 = .ok (.getfield 34, 3) := by decide +kernel
theorem dX6_cut_125 : decode cX6_cut 125 = .ok (.bipush 32, 2) := by decide +kernel
theorem dX6_cut_127 : decode cX6_cut 127 = .ok (.iload_n 3, 1) := by decide +kernel
theorem dX6_cut_128 : decode cX6_cut 128 = .ok (.imul, 1) := by decide +kernel
theorem dX6_cut_129 : decode cX6_cut 129 = .ok (.iload 5, 2) := by decide +kernel
theorem dX6_cut_131 : decode cX6_cut 131 = .ok (.iadd, 1) := by decide +kernel
theorem dX6_cut_132 : decode cX6_cut 132 = .ok (.iaload, 1) := by decide +kernel
theorem dX6_cut_133 : decode cX6_cut 133 = .ok (.iastore, 1) := by decide +kernel
theorem dX6_cut_134 : decode cX6_cut 134 = .ok (.iinc 5 1, 3) := by decide +kernel
theorem dX6_cut_137 : decode cX6_cut 137 = .ok (.goto (-35), 3) := by decide +kernel
theorem dX6_cut_140 : decode cX6_cut 140 = .ok (.aload_n 0, 1) := by decide +kernel
theorem dX6_cut_141 : decode cX6_cut 141 = .ok (.getfield 13, 3) := by decide +kernel
theorem dX6_cut_144 : decode cX6_cut 144 = .ok (.iload 4, 2) := by decide +kernel
theorem dX6_cut_146 : decode cX6_cut 146 = .ok (.iload_n 3, 1) := by decide +kernel
theorem dX6_cut_147 : decode cX6_cut 147 = .ok (.iload_n 1, 1) := by decide +kernel
theorem dX6_cut_148 : decode cX6_cut 148 = .ok (.if_icmp .le 16, 3) := by decide +kernel
theorem dX6_cut_151 : decode cX6_cut 151 = .ok (.aload_n 0, 1) := by decide +kernel
theorem dX6_cut_152 : decode cX6_cut 152 = .ok (.getfield 37, 3) := by decide +kernel
theorem dX6_cut_155 : decode cX6_cut 155 = .ok (.iload_n 3, 1) := by decide +kernel
theorem dX6_cut_156 : decode cX6_cut 156 = .ok (.baload, 1) := by decide +kernel
theorem dX6_cut_157 : decode cX6_cut 157 = .ok (.ifCond .eq 7, 3) := by decide +kernel
theorem dX6_cut_160 : decode cX6_cut 160 = .ok (.iconst 1, 1) := by decide +kernel
theorem dX6_cut_161 : decode cX6_cut 161 = .ok (.goto 4, 3) := by decide +kernel
theorem dX6_cut_164 : decode cX6_cut 164 = .ok (.iconst 0, 1) := by decide +kernel
theorem dX6_cut_165 : decode cX6_cut 165 = .ok (.bastore, 1) := by decide +kernel
theorem dX6_cut_166 : decode cX6_cut 166 = .ok (.iinc 3 (-1), 3) := by decide +kernel
theorem dX6_cut_169 : decode cX6_cut 169 = .ok (.goto (-92), 3) := by decide +kernel
theorem dX6_cut_172 : decode cX6_cut 172 = .ok (.aload_n 0, 1) := by decide +kernel
theorem dX6_cut_173 : decode cX6_cut 173 = .ok (.iconst 0, 1) := by decide +kernel
theorem dX6_cut_174 : decode cX6_cut 174 = .ok (.putfield 93, 3) := by decide +kernel
theorem dX6_cut_177 : decode cX6_cut 177 = .ok (.aload_n 0, 1) := by decide +kernel
theorem dX6_cut_178 : decode cX6_cut 178 = .ok (.iconst (-1), 1) := by decide +kernel
theorem dX6_cut_179 : decode cX6_cut 179 = .ok (.putfield 25, 3) := by decide +kernel
theorem dX6_cut_182 : decode cX6_cut 182 = .ok (.aload_n 0, 1) := by decide +kernel
theorem dX6_cut_183 : decode cX6_cut 183 = .ok (.iconst 0, 1) := by decide +kernel
theorem dX6_cut_184 : decode cX6_cut 184 = .ok (.putfield 17, 3) := by decide +kernel
theorem dX6_cut_187 : decode cX6_cut 187 = .ok (.iconst 1, 1) := by decide +kernel
theorem dX6_cut_188 : decode cX6_cut 188 = .ok (.ireturn, 1) := by decide +kernel
theorem dX6_fill_0 : decode cX6_fill 0 = .ok (.aload_n 0, 1) := by decide +kernel
theorem dX6_fill_1 : decode cX6_fill 1 = .ok (.iconst 2, 1) := by decide +kernel
theorem dX6_fill_2 : decode cX6_fill 2 = .ok (.iconst 0, 1) := by decide +kernel
theorem dX6_fill_3 : decode cX6_fill 3 = .ok (.iconst 0, 1) := by decide +kernel
theorem dX6_fill_4 : decode cX6_fill 4 = .ok (.iconst 0, 1) := by decide +kernel
theorem dX6_fill_5 : decode cX6_fill 5 = .ok (.invokevirtual 121, 3) := by decide +kernel
theorem dX6_fill_8 : decode cX6_fill 8 = .ok (.iconst 0, 1) := by decide +kernel
theorem dX6_fill_9 : decode cX6_fill 9 = .ok (.istore_n 3, 1) := by decide +kernel
theorem dX6_fill_10 : decode cX6_fill 10 = .ok (.iload_n 3, 1) := by decide +kernel
theorem dX6_fill_11 : decode cX6_fill 11 = .ok (.bipush 24, 2) := by decide +kernel
theorem dX6_fill_13 : decode cX6_fill 13 = .ok (.if_icmp .ge 20, 3) := by decide +kernel
theorem dX6_fill_16 : decode cX6_fill 16 = .ok (.aload_n 0, 1) := by decide +kernel
theorem dX6_fill_17 : decode cX6_fill 17 = .ok (.getfield 40, 3) := by decide +kernel
theorem dX6_fill_20 : decode cX6_fill 20 = .ok (.iconst 4, 1) := by decide +kernel
theorem dX6_fill_21 : decode cX6_fill 21 = .ok (.iload_n 3, 1) := by decide +kernel
theorem dX6_fill_22 : decode cX6_fill 22 = .ok (.iadd, 1) := by decide +kernel
theorem dX6_fill_23 : decode cX6_fill 23 = .ok (.aload_n 2, 1) := by decide +kernel
theorem dX6_fill_24 : decode cX6_fill 24 = .ok (.iload_n 3, 1) := by decide +kernel
theorem dX6_fill_25 : decode cX6_fill 25 = .ok (.iaload, 1) := by decide +kernel
theorem dX6_fill_26 : decode cX6_fill 26 = .ok (.iastore, 1) := by decide +kernel
theorem dX6_fill_27 : decode cX6_fill 27 = .ok (.iinc 3 1, 3) := by decide +kernel
theorem dX6_fill_30 : decode cX6_fill 30 = .ok (.goto (-20), 3) := by decide +kernel
theorem dX6_fill_33 : decode cX6_fill 33 = .ok (.aload_n 0, 1) := by decide +kernel
theorem dX6_fill_34 : decode cX6_fill 34 = .ok (.iconst 0, 1) := by decide +kernel
theorem dX6_fill_35 : decode cX6_fill 35 = .ok (.putfield 93, 3) := by decide +kernel
theorem dX6_fill_38 : decode cX6_fill 38 = .ok (.aload_n 0, 1) := by decide +kernel
theorem dX6_fill_39 : decode cX6_fill 39 = .ok (.iload_n 1, 1) := by decide +kernel
theorem dX6_fill_40 : decode cX6_fill 40 = .ok (.invokevirtual 96, 3) := by decide +kernel
theorem dX6_fill_43 : decode cX6_fill 43 = .ok (.aload_n 0, 1) := by decide +kernel
theorem dX6_fill_44 : decode cX6_fill 44 = .ok (.dup, 1) := by decide +kernel
theorem dX6_fill_45 : decode cX6_fill 45 = .ok (.getfield 165, 3) := by decide +kernel
theorem dX6_fill_48 : decode cX6_fill 48 = .ok (.iconst 1, 1) := by decide +kernel
theorem dX6_fill_49 : decode cX6_fill 49 = .ok (.iadd, 1) := by decide +kernel
theorem dX6_fill_50 : decode cX6_fill 50 = .ok (.putfield 165, 3) := by decide +kernel
theorem dX6_fill_53 : decode cX6_fill 53 = .ok (.return_, 1) := by decide +kernel
theorem dX6_findRest_0 : decode cX6_findRest 0 = .ok (.iconst 0, 1) := by decide +kernel
theorem dX6_findRest_1 : decode cX6_findRest 1 = .ok (.istore 5, 2) := by decide +kernel
theorem dX6_findRest_3 : decode cX6_findRest 3 = .ok (.iload 5, 2) := by decide +kernel
theorem dX6_findRest_5 : decode cX6_findRest 5 = .ok (.bipush 24, 2) := by decide +kernel
theorem dX6_findRest_7 : decode cX6_findRest 7 = .ok (.if_icmp .ge 103, 3) := by decide +kernel
theorem dX6_findRest_10 : decode cX6_findRest 10 = .ok (.aload_n 0, 1) := by decide +kernel
theorem dX6_findRest_11 : decode cX6_findRest 11 = .ok (.getfield 7, 3) := by decide +kernel
theorem dX6_findRest_14 : decode cX6_findRest 14 = .ok (.bipush 32, 2) := by decide +kernel
theorem dX6_findRest_16 : decode cX6_findRest 16 = .ok (.iload_n 2, 1) := by decide +kernel
theorem dX6_findRest_17 : decode cX6_findRest 17 = .ok (.imul, 1) := by decide +kernel
theorem dX6_findRest_18 : decode cX6_findRest 18 = .ok (.iconst 4, 1) := by decide +kernel
theorem dX6_findRest_19 : decode cX6_findRest 19 = .ok (.iadd, 1) := by decide +kernel
theorem dX6_findRest_20 : decode cX6_findRest 20 = .ok (.iload 5, 2) := by decide +kernel
theorem dX6_findRest_22 : decode cX6_findRest 22 = .ok (.iadd, 1) := by decide +kernel
theorem dX6_findRest_23 : decode cX6_findRest 23 = .ok (.iaload, 1) := by decide +kernel
theorem dX6_findRest_24 : decode cX6_findRest 24 = .ok (.istore 6, 2) := by decide +kernel
theorem dX6_findRest_26 : decode cX6_findRest 26 = .ok (.iconst 0, 1) := by decide +kernel
theorem dX6_findRest_27 : decode cX6_findRest 27 = .ok (.istore 7, 2) := by decide +kernel
theorem dX6_findRest_29 : decode cX6_findRest 29 = .ok (.iload 7, 2) := by decide +kernel
theorem dX6_findRest_31 : decode cX6_findRest 31 = .ok (.aload_n 0, 1) := by decide +kernel
theorem dX6_findRest_32 : decode cX6_findRest 32 = .ok (.iload_n 1, 1) := by decide +kernel
theorem dX6_findRest_33 : decode cX6_findRest 33 = .ok (.invokevirtual 106, 3) := by decide +kernel
theorem dX6_findRest_36 : decode cX6_findRest 36 = .ok (.if_icmp .ge 61, 3) := by decide +kernel
theorem dX6_findRest_39 : decode cX6_findRest 39 = .ok (.aload_n 0, 1) := by decide +kernel
theorem dX6_findRest_40 : decode cX6_findRest 40 = .ok (.iload_n 1, 1) := by decide +kernel
theorem dX6_findRest_41 : decode cX6_findRest 41 = .ok (.iload 7, 2) := by decide +kernel
theorem dX6_findRest_43 : decode cX6_findRest 43 = .ok (.invokevirtual 109, 3) := by decide +kernel
theorem dX6_findRest_46 : decode cX6_findRest 46 = .ok (.istore 8, 2) := by decide +kernel
theorem dX6_findRest_48 : decode cX6_findRest 48 = .ok (.aload_n 0, 1) := by decide +kernel
theorem dX6_findRest_49 : decode cX6_findRest 49 = .ok (.iload 8, 2) := by decide +kernel
theorem dX6_findRest_51 : decode cX6_findRest 51 = .ok (.invokevirtual 113, 3) := by decide +kernel
theorem dX6_findRest_54 : decode cX6_findRest 54 = .ok (.ifCond .eq 33, 3) := by decide +kernel
theorem dX6_findRest_57 : decode cX6_findRest 57 = .ok (.iload 6, 2) := by decide +kernel
theorem dX6_findRest_59 : decode cX6_findRest 59 = .ok (.aload_n 0, 1) := by decide +kernel
theorem dX6_findRest_60 : decode cX6_findRest 60 = .ok (.getfield 7, 3) := by decide +kernel
theorem dX6_findRest_63 : decode cX6_findRest 63 = .ok (.bipush 32, 2) := by decide +kernel
theorem dX6_findRest_65 : decode cX6_findRest 65 = .ok (.iload 8, 2) := by decide +kernel
theorem dX6_findRest_67 : decode cX6_findRest 67 = .ok (.imul, 1) := by decide +kernel
theorem dX6_findRest_68 : decode cX6_findRest 68 = .ok (.iconst 4, 1) := by decide +kernel
theorem dX6_findRest_69 : decode cX6_findRest 69 = .ok (.iadd, 1) := by decide +kernel
theorem dX6_findRest_70 : decode cX6_findRest 70 = .ok (.iload 5, 2) := by decide +kernel
theorem dX6_findRest_72 : decode cX6_findRest 72 = .ok (.iadd, 1) := by decide +kernel
theorem dX6_findRest_73 : decode cX6_findRest 73 = .ok (.iaload, 1) := by decide +kernel
theorem dX6_findRest_74 : decode cX6_findRest 74 = .ok (.iload_n 3, 1) := by decide +kernel
theorem dX6_findRest_75 : decode cX6_findRest 75 = .ok (.iload 7, 2) := by decide +kernel
theorem dX6_findRest_77 : decode cX6_findRest 77 = .ok (.invokestatic 150, 3) := by decide +kernel
theorem dX6_findRest_80 : decode cX6_findRest 80 = .ok (.invokestatic 138, 3) := by decide +kernel
theorem dX6_findRest_83 : decode cX6_findRest 83 = .ok (.ixor, 1) := by decide +kernel
theorem dX6_findRest_84 : decode cX6_findRest 84 = .ok (.goto 5, 3) := by decide +kernel
theorem dX6_findRest_87 : decode cX6_findRest 87 = .ok (.iload 6, 2) := by decide +kernel
theorem dX6_findRest_89 : decode cX6_findRest 89 = .ok (.istore 6, 2) := by decide +kernel
theorem dX6_findRest_91 : decode cX6_findRest 91 = .ok (.iinc 7 1, 3) := by decide +kernel
theorem dX6_findRest_94 : decode cX6_findRest 94 = .ok (.goto (-65), 3) := by decide +kernel
theorem dX6_findRest_97 : decode cX6_findRest 97 = .ok (.aload 4, 2) := by decide +kernel
theorem dX6_findRest_99 : decode cX6_findRest 99 = .ok (.iload 5, 2) := by decide +kernel
theorem dX6_findRest_101 : decode cX6_findRest 101 = .ok (.iload 6, 2) := by decide +kernel
theorem dX6_findRest_103 : decode cX6_findRest 103 = .ok (.iastore, 1) := by decide +kernel
theorem dX6_findRest_104 : decode cX6_findRest 104 = .ok (.iinc 5 1, 3) := by decide +kernel
theorem dX6_findRest_107 : decode cX6_findRest 107 = .ok (.goto (-104), 3) := by decide +kernel
theorem dX6_findRest_110 : decode cX6_findRest 110 = .ok (.return_, 1) := by decide +kernel
theorem dX6_findUnknown_0 : decode cX6_findUnknown 0 = .ok (.aload_n 0, 1) := by decide +kernel
theorem dX6_findUnknown_1 : decode cX6_findUnknown 1 = .ok (.iconst 0, 1) := by decide +kernel
theorem dX6_findUnknown_2 : decode cX6_findUnknown 2 = .ok (.putfield 172, 3) := by decide +kernel
theorem dX6_findUnknown_5 : decode cX6_findUnknown 5 = .ok (.iconst 1, 1) := by decide +kernel
theorem dX6_findUnknown_6 : decode cX6_findUnknown 6 = .ok (.istore_n 2, 1) := by decide +kernel
theorem dX6_findUnknown_7 : decode cX6_findUnknown 7 = .ok (.iconst 0, 1) := by decide +kernel
theorem dX6_findUnknown_8 : decode cX6_findUnknown 8 = .ok (.istore_n 3, 1) := by decide +kernel
theorem dX6_findUnknown_9 : decode cX6_findUnknown 9 = .ok (.iload_n 3, 1) := by decide +kernel
theorem dX6_findUnknown_10 : decode cX6_findUnknown 10 = .ok (.aload_n 0, 1) := by decide +kernel
theorem dX6_findUnknown_11 : decode cX6_findUnknown 11 = .ok (.iload_n 1, 1) := by decide +kernel
theorem dX6_findUnknown_12 : decode cX6_findUnknown 12 = .ok (.invokevirtual 106, 3) := by decide +kernel
theorem dX6_findUnknown_15 : decode cX6_findUnknown 15 = .ok (.if_icmp .ge 158, 3) := by decide +kernel
theorem dX6_findUnknown_18 : decode cX6_findUnknown 18 = .ok (.aload_n 0, 1) := by decide +kernel
theorem dX6_findUnknown_19 : decode cX6_findUnknown 19 = .ok (.iload_n 1, 1) := by decide +kernel
theorem dX6_findUnknown_20 : decode cX6_findUnknown 20 = .ok (.iload_n 3, 1) := by decide +kernel
theorem dX6_findUnknown_21 : decode cX6_findUnknown 21 = .ok (.invokevirtual 109, 3) := by decide +kernel
theorem dX6_findUnknown_24 : decode cX6_findUnknown 24 = .ok (.istore 4, 2) := by decide +kernel
theorem dX6_findUnknown_26 : decode cX6_findUnknown 26 = .ok (.aload_n 0, 1) := by decide +kernel
theorem dX6_findUnknown_27 : decode cX6_findUnknown 27 = .ok (.iload 4, 2) := by decide +kernel
theorem dX6_findUnknown_29 : decode cX6_findUnknown 29 = .ok (.invokevirtual 113, 3) := by decide +kernel
theorem dX6_findUnknown_32 : decode cX6_findUnknown 32 = .ok (.ifCond .eq 6, 3) := by decide +kernel
theorem dX6_findUnknown_35 : decode cX6_findUnknown 35 = .ok (.goto 132, 3) := by decide +kernel
theorem dX6_findUnknown_38 : decode cX6_findUnknown 38 = .ok (.iload_n 2, 1) := by decide +kernel
theorem dX6_findUnknown_39 : decode cX6_findUnknown 39 = .ok (.ifCond .eq 16, 3) := by decide +kernel
theorem dX6_findUnknown_42 : decode cX6_findUnknown 42 = .ok (.aload_n 0, 1) := by decide +kernel
theorem dX6_findUnknown_43 : decode cX6_findUnknown 43 = .ok (.iload 4, 2) := by decide +kernel
theorem dX6_findUnknown_45 : decode cX6_findUnknown 45 = .ok (.invokevirtual 82, 3) := by decide +kernel
theorem dX6_findUnknown_48 : decode cX6_findUnknown 48 = .ok (.ifCond .eq 7, 3) := by decide +kernel
theorem dX6_findUnknown_51 : decode cX6_findUnknown 51 = .ok (.iconst 1, 1) := by decide +kernel
theorem dX6_findUnknown_52 : decode cX6_findUnknown 52 = .ok (.goto 4, 3) := by decide +kernel
theorem dX6_findUnknown_55 : decode cX6_findUnknown 55 = .ok (.iconst 0, 1) := by decide +kernel
theorem dX6_findUnknown_56 : decode cX6_findUnknown 56 = .ok (.istore_n 2, 1) := by decide +kernel
theorem dX6_findUnknown_57 : decode cX6_findUnknown 57 = .ok (.iconst 0, 1) := by decide +kernel
theorem dX6_findUnknown_58 : decode cX6_findUnknown 58 = .ok (.istore 5, 2) := by decide +kernel
theorem dX6_findUnknown_60 : decode cX6_findUnknown 60 = .ok (.iload 5, 2) := by decide +kernel
theorem dX6_findUnknown_62 : decode cX6_findUnknown 62 = .ok (.aload_n 0, 1) := by decide +kernel
theorem dX6_findUnknown_63 : decode cX6_findUnknown 63 = .ok (.getfield 172, 3) := by decide +kernel
theorem dX6_findUnknown_66 : decode cX6_findUnknown 66 = .ok (.if_icmp .ge 21, 3) := by decide +kernel
theorem dX6_findUnknown_69 : decode cX6_findUnknown 69 = .ok (.aload_n 0, 1) := by decide +kernel
theorem dX6_findUnknown_70 : decode cX6_findUnknown 70 = .ok (.getfield 46, 3) := by decide +kernel
theorem dX6_findUnknown_73 : decode cX6_findUnknown 73 = .ok (.iload 5, 2) := by decide +kernel
theorem dX6_findUnknown_75 : decode cX6_findUnknown 75 = .ok (.iaload, 1) := by decide +kernel
theorem dX6_findUnknown_76 : decode cX6_findUnknown 76 = .ok (.iload 4, 2) := by decide +kernel
theorem dX6_findUnknown_78 : decode cX6_findUnknown 78 = .ok (.if_icmp .eq 9, 3) := by decide +kernel
theorem dX6_findUnknown_81 : decode cX6_findUnknown 81 = .ok (.iinc 5 1, 3) := by decide +kernel
theorem dX6_findUnknown_84 : decode cX6_findUnknown 84 = .ok (.goto (-24), 3) := by decide +kernel
theorem dX6_findUnknown_87 : decode cX6_findUnknown 87 = .ok (.iload 5, 2) := by decide +kernel
theorem dX6_findUnknown_89 : decode cX6_findUnknown 89 = .ok (.aload_n 0, 1) := by decide +kernel
theorem dX6_findUnknown_90 : decode cX6_findUnknown 90 = .ok (.getfield 172, 3) := by decide +kernel
theorem dX6_findUnknown_93 : decode cX6_findUnknown 93 = .ok (.if_icmp .ne 38, 3) := by decide +kernel
theorem dX6_findUnknown_96 : decode cX6_findUnknown 96 = .ok (.aload_n 0, 1) := by decide +kernel
theorem dX6_findUnknown_97 : decode cX6_findUnknown 97 = .ok (.getfield 46, 3) := by decide +kernel
theorem dX6_findUnknown_100 : decode cX6_findUnknown 100 = .ok (.iload 5, 2) := by decide +kernel
theorem dX6_findUnknown_102 : decode cX6_findUnknown 102 = .ok (.iload 4, 2) := by decide +kernel
theorem dX6_findUnknown_104 : decode cX6_findUnknown 104 = .ok (.iastore, 1) := by decide +kernel
theorem dX6_findUnknown_105 : decode cX6_findUnknown 105 = .ok (.aload_n 0, 1) := by decide +kernel
theorem dX6_findUnknown_106 : decode cX6_findUnknown 106 = .ok (.getfield 49, 3) := by decide +kernel
theorem dX6_findUnknown_109 : decode cX6_findUnknown 109 = .ok (.iload 5, 2) := by decide +kernel
theorem dX6_findUnknown_111 : decode cX6_findUnknown 111 = .ok (.iconst 0, 1) := by decide +kernel
theorem dX6_findUnknown_112 : decode cX6_findUnknown 112 = .ok (.iastore, 1) := by decide +kernel
theorem dX6_findUnknown_113 : decode cX6_findUnknown 113 = .ok (.aload_n 0, 1) := by decide +kernel
theorem dX6_findUnknown_114 : decode cX6_findUnknown 114 = .ok (.getfield 52, 3) := by decide +kernel
theorem dX6_findUnknown_117 : decode cX6_findUnknown 117 = .ok (.iload 5, 2) := by decide +kernel
theorem dX6_findUnknown_119 : decode cX6_findUnknown 119 = .ok (.iconst 0, 1) := by decide +kernel
theorem dX6_findUnknown_120 : decode cX6_findUnknown 120 = .ok (.iastore, 1) := by decide +kernel
theorem dX6_findUnknown_121 : decode cX6_findUnknown 121 = .ok (.aload_n 0, 1) := by decide +kernel
theorem dX6_findUnknown_122 : decode cX6_findUnknown 122 = .ok (.dup, 1) := by decide +kernel
theorem dX6_findUnknown_123 : decode cX6_findUnknown 123 = .ok (.getfield 172, 3) := by decide +kernel
theorem dX6_findUnknown_126 : decode cX6_findUnknown 126 = .ok (.iconst 1, 1) := by decide +kernel
theorem dX6_findUnknown_127 : decode cX6_findUnknown 127 = .ok (.iadd, 1) := by decide +kernel
theorem dX6_findUnknown_128 : decode cX6_findUnknown 128 = .ok (.putfield 172, 3) := by decide +kernel
theorem dX6_findUnknown_131 : decode cX6_findUnknown 131 = .ok (.aload_n 0, 1) := by decide +kernel
theorem dX6_findUnknown_132 : decode cX6_findUnknown 132 = .ok (.getfield 49, 3) := by decide +kernel
theorem dX6_findUnknown_135 : decode cX6_findUnknown 135 = .ok (.iload 5, 2) := by decide +kernel
theorem dX6_findUnknown_137 : decode cX6_findUnknown 137 = .ok (.aload_n 0, 1) := by decide +kernel
theorem dX6_findUnknown_138 : decode cX6_findUnknown 138 = .ok (.getfield 49, 3) := by decide +kernel
theorem dX6_findUnknown_141 : decode cX6_findUnknown 141 = .ok (.iload 5, 2) := by decide +kernel
theorem dX6_findUnknown_143 : decode cX6_findUnknown 143 = .ok (.iaload, 1) := by decide +kernel
theorem dX6_findUnknown_144 : decode cX6_findUnknown 144 = .ok (.iconst 1, 1) := by decide +kernel
theorem dX6_findUnknown_145 : decode cX6_findUnknown 145 = .ok (.ixor, 1) := by decide +kernel
theorem dX6_findUnknown_146 : decode cX6_findUnknown 146 = .ok (.iastore, 1) := by decide +kernel
theorem dX6_findUnknown_147 : decode cX6_findUnknown 147 = .ok (.aload_n 0, 1) := by decide +kernel
theorem dX6_findUnknown_148 : decode cX6_findUnknown 148 = .ok (.getfield 52, 3) := by decide +kernel
theorem dX6_findUnknown_151 : decode cX6_findUnknown 151 = .ok (.iload 5, 2) := by decide +kernel
theorem dX6_findUnknown_153 : decode cX6_findUnknown 153 = .ok (.aload_n 0, 1) := by decide +kernel
theorem dX6_findUnknown_154 : decode cX6_findUnknown 154 = .ok (.getfield 52, 3) := by decide +kernel
theorem dX6_findUnknown_157 : decode cX6_findUnknown 157 = .ok (.iload 5, 2) := by decide +kernel
theorem dX6_findUnknown_159 : decode cX6_findUnknown 159 = .ok (.iaload, 1) := by decide +kernel
theorem dX6_findUnknown_160 : decode cX6_findUnknown 160 = .ok (.iconst 1, 1) := by decide +kernel
theorem dX6_findUnknown_161 : decode cX6_findUnknown 161 = .ok (.iload_n 3, 1) := by decide +kernel
theorem dX6_findUnknown_162 : decode cX6_findUnknown 162 = .ok (.invokestatic 150, 3) := by decide +kernel
theorem dX6_findUnknown_165 : decode cX6_findUnknown 165 = .ok (.ixor, 1) := by decide +kernel
theorem dX6_findUnknown_166 : decode cX6_findUnknown 166 = .ok (.iastore, 1) := by decide +kernel
theorem dX6_findUnknown_167 : decode cX6_findUnknown 167 = .ok (.iinc 3 1, 3) := by decide +kernel
theorem dX6_findUnknown_170 : decode cX6_findUnknown 170 = .ok (.goto (-161), 3) := by decide +kernel
theorem dX6_findUnknown_173 : decode cX6_findUnknown 173 = .ok (.iload_n 2, 1) := by decide +kernel
theorem dX6_findUnknown_174 : decode cX6_findUnknown 174 = .ok (.ireturn, 1) := by decide +kernel
theorem dX6_isOne_0 : decode cX6_isOne 0 = .ok (.iload_n 1, 1) := by decide +kernel
theorem dX6_isOne_1 : decode cX6_isOne 1 = .ok (.ifCond .eq 16, 3) := by decide +kernel
theorem dX6_isOne_4 : decode cX6_isOne 4 = .ok (.aload_n 0, 1) := by decide +kernel
theorem dX6_isOne_5 : decode cX6_isOne 5 = .ok (.getfield 49, 3) := by decide +kernel
theorem dX6_isOne_8 : decode cX6_isOne 8 = .ok (.iconst 0, 1) := by decide +kernel
theorem dX6_isOne_9 : decode cX6_isOne 9 = .ok (.iaload, 1) := by decide +kernel
theorem dX6_isOne_10 : decode cX6_isOne 10 = .ok (.ifCond .eq 7, 3) := by decide +kernel
theorem dX6_isOne_13 : decode cX6_isOne 13 = .ok (.iconst 1, 1) := by decide +kernel
theorem dX6_isOne_14 : decode cX6_isOne 14 = .ok (.goto 4, 3) := by decide +kernel
theorem dX6_isOne_17 : decode cX6_isOne 17 = .ok (.iconst 0, 1) := by decide +kernel
theorem dX6_isOne_18 : decode cX6_isOne 18 = .ok (.istore_n 3, 1) := by decide +kernel
theorem dX6_isOne_19 : decode cX6_isOne 19 = .ok (.iload_n 2, 1) := by decide +kernel
theorem dX6_isOne_20 : decode cX6_isOne 20 = .ok (.ifCond .eq 16, 3) := by decide +kernel
theorem dX6_isOne_23 : decode cX6_isOne 23 = .ok (.aload_n 0, 1) := by decide +kernel
theorem dX6_isOne_24 : decode cX6_isOne 24 = .ok (.getfield 52, 3) := by decide +kernel
theorem dX6_isOne_27 : decode cX6_isOne 27 = .ok (.iconst 0, 1) := by decide +kernel
theorem dX6_isOne_28 : decode cX6_isOne 28 = .ok (.iaload, 1) := by decide +kernel
theorem dX6_isOne_29 : decode cX6_isOne 29 = .ok (.ifCond .eq 7, 3) := by decide +kernel
theorem dX6_isOne_32 : decode cX6_isOne 32 = .ok (.iconst 1, 1) := by decide +kernel
theorem dX6_isOne_33 : decode cX6_isOne 33 = .ok (.goto 4, 3) := by decide +kernel
theorem dX6_isOne_36 : decode cX6_isOne 36 = .ok (.iconst 0, 1) := by decide +kernel
theorem dX6_isOne_37 : decode cX6_isOne 37 = .ok (.istore 4, 2) := by decide +kernel
theorem dX6_isOne_39 : decode cX6_isOne 39 = .ok (.iload_n 3, 1) := by decide +kernel
theorem dX6_isOne_40 : decode cX6_isOne 40 = .ok (.ifCond .ne 8, 3) := by decide +kernel
theorem dX6_isOne_43 : decode cX6_isOne 43 = .ok (.iload 4, 2) := by decide +kernel
theorem dX6_isOne_45 : decode cX6_isOne 45 = .ok (.ifCond .eq 7, 3) := by decide +kernel
theorem dX6_isOne_48 : decode cX6_isOne 48 = .ok (.iconst 1, 1) := by decide +kernel
theorem dX6_isOne_49 : decode cX6_isOne 49 = .ok (.goto 4, 3) := by decide +kernel
theorem dX6_isOne_52 : decode cX6_isOne 52 = .ok (.iconst 0, 1) := by decide +kernel
theorem dX6_isOne_53 : decode cX6_isOne 53 = .ok (.istore 5, 2) := by decide +kernel
theorem dX6_isOne_55 : decode cX6_isOne 55 = .ok (.iconst 0, 1) := by decide +kernel
theorem dX6_isOne_56 : decode cX6_isOne 56 = .ok (.istore 6, 2) := by decide +kernel
theorem dX6_isOne_58 : decode cX6_isOne 58 = .ok (.iload 6, 2) := by decide +kernel
theorem dX6_isOne_60 : decode cX6_isOne 60 = .ok (.bipush 24, 2) := by decide +kernel
theorem dX6_isOne_62 : decode cX6_isOne 62 = .ok (.if_icmp .ge 118, 3) := by decide +kernel
theorem dX6_isOne_65 : decode cX6_isOne 65 = .ok (.iload 5, 2) := by decide +kernel
theorem dX6_isOne_67 : decode cX6_isOne 67 = .ok (.ifCond .eq 113, 3) := by decide +kernel
theorem dX6_isOne_70 : decode cX6_isOne 70 = .ok (.aload_n 0, 1) := by decide +kernel
theorem dX6_isOne_71 : decode cX6_isOne 71 = .ok (.getfield 61, 3) := by decide +kernel
theorem dX6_isOne_74 : decode cX6_isOne 74 = .ok (.iload 6, 2) := by decide +kernel
theorem dX6_isOne_76 : decode cX6_isOne 76 = .ok (.iload_n 3, 1) := by decide +kernel
theorem dX6_isOne_77 : decode cX6_isOne 77 = .ok (.ifCond .eq 13, 3) := by decide +kernel
theorem dX6_isOne_80 : decode cX6_isOne 80 = .ok (.aload_n 0, 1) := by decide +kernel
theorem dX6_isOne_81 : decode cX6_isOne 81 = .ok (.getfield 55, 3) := by decide +kernel
theorem dX6_isOne_84 : decode cX6_isOne 84 = .ok (.iload 6, 2) := by decide +kernel
theorem dX6_isOne_86 : decode cX6_isOne 86 = .ok (.iaload, 1) := by decide +kernel
theorem dX6_isOne_87 : decode cX6_isOne 87 = .ok (.goto 19, 3) := by decide +kernel
theorem dX6_isOne_90 : decode cX6_isOne 90 = .ok (.aload_n 0, 1) := by decide +kernel
theorem dX6_isOne_91 : decode cX6_isOne 91 = .ok (.getfield 58, 3) := by decide +kernel
theorem dX6_isOne_94 : decode cX6_isOne 94 = .ok (.iload 6, 2) := by decide +kernel
theorem dX6_isOne_96 : decode cX6_isOne 96 = .ok (.iaload, 1) := by decide +kernel
theorem dX6_isOne_97 : decode cX6_isOne 97 = .ok (.aload_n 0, 1) := by decide +kernel
theorem dX6_isOne_98 : decode cX6_isOne 98 = .ok (.getfield 52, 3) := by decide +kernel
theorem dX6_isOne_101 : decode cX6_isOne 101 = .ok (.iconst 0, 1) := by decide +kernel
theorem dX6_isOne_102 : decode cX6_isOne 102 = .ok (.iaload, 1) := by decide +kernel
theorem dX6_isOne_103 : decode cX6_isOne 103 = .ok (.invokestatic 175, 3) := by decide +kernel
theorem dX6_isOne_106 : decode cX6_isOne 106 = .ok (.iastore, 1) := by decide +kernel
theorem dX6_isOne_107 : decode cX6_isOne 107 = .ok (.iload_n 1, 1) := by decide +kernel
theorem dX6_isOne_108 : decode cX6_isOne 108 = .ok (.ifCond .eq 29, 3) := by decide +kernel
theorem dX6_isOne_111 : decode cX6_isOne 111 = .ok (.aload_n 0, 1) := by decide +kernel
theorem dX6_isOne_112 : decode cX6_isOne 112 = .ok (.getfield 61, 3) := by decide +kernel
theorem dX6_isOne_115 : decode cX6_isOne 115 = .ok (.iload 6, 2) := by decide +kernel
theorem dX6_isOne_117 : decode cX6_isOne 117 = .ok (.iaload, 1) := by decide +kernel
theorem dX6_isOne_118 : decode cX6_isOne 118 = .ok (.aload_n 0, 1) := by decide +kernel
theorem dX6_isOne_119 : decode cX6_isOne 119 = .ok (.getfield 49, 3) := by decide +kernel
theorem dX6_isOne_122 : decode cX6_isOne 122 = .ok (.iconst 0, 1) := by decide +kernel
theorem dX6_isOne_123 : decode cX6_isOne 123 = .ok (.iaload, 1) := by decide +kernel
theorem dX6_isOne_124 : decode cX6_isOne 124 = .ok (.invokestatic 138, 3) := by decide +kernel
theorem dX6_isOne_127 : decode cX6_isOne 127 = .ok (.aload_n 0, 1) := by decide +kernel
theorem dX6_isOne_128 : decode cX6_isOne 128 = .ok (.getfield 55, 3) := by decide +kernel
theorem dX6_isOne_131 : decode cX6_isOne 131 = .ok (.iload 6, 2) := by decide +kernel
theorem dX6_isOne_133 : decode cX6_isOne 133 = .ok (.iaload, 1) := by decide +kernel
theorem dX6_isOne_134 : decode cX6_isOne 134 = .ok (.if_icmp .ne 37, 3) := by decide +kernel
theorem dX6_isOne_137 : decode cX6_isOne 137 = .ok (.iload_n 2, 1) := by decide +kernel
theorem dX6_isOne_138 : decode cX6_isOne 138 = .ok (.ifCond .eq 29, 3) := by decide +kernel
theorem dX6_isOne_141 : decode cX6_isOne 141 = .ok (.aload_n 0, 1) := by decide +kernel
theorem dX6_isOne_142 : decode cX6_isOne 142 = .ok (.getfield 61, 3) := by decide +kernel
theorem dX6_isOne_145 : decode cX6_isOne 145 = .ok (.iload 6, 2) := by decide +kernel
theorem dX6_isOne_147 : decode cX6_isOne 147 = .ok (.iaload, 1) := by decide +kernel
theorem dX6_isOne_148 : decode cX6_isOne 148 = .ok (.aload_n 0, 1) := by decide +kernel
theorem dX6_isOne_149 : decode cX6_isOne 149 = .ok (.getfield 52, 3) := by decide +kernel
theorem dX6_isOne_152 : decode cX6_isOne 152 = .ok (.iconst 0, 1) := by decide +kernel
theorem dX6_isOne_153 : decode cX6_isOne 153 = .ok (.iaload, 1) := by decide +kernel
theorem dX6_isOne_154 : decode cX6_isOne 154 = .ok (.invokestatic 138, 3) := by decide +kernel
theorem dX6_isOne_157 : decode cX6_isOne 157 = .ok (.aload_n 0, 1) := by decide +kernel
theorem dX6_isOne_158 : decode cX6_isOne 158 = .ok (.getfield 58, 3) := by decide +kernel
theorem dX6_isOne_161 : decode cX6_isOne 161 = .ok (.iload 6, 2) := by decide +kernel
theorem dX6_isOne_163 : decode cX6_isOne 163 = .ok (.iaload, 1) := by decide +kernel
theorem dX6_isOne_164 : decode cX6_isOne 164 = .ok (.if_icmp .ne 7, 3) := by decide +kernel
theorem dX6_isOne_167 : decode cX6_isOne 167 = .ok (.iconst 1, 1) := by decide +kernel
theorem dX6_isOne_168 : decode cX6_isOne 168 = .ok (.goto 4, 3) := by decide +kernel
theorem dX6_isOne_171 : decode cX6_isOne 171 = .ok (.iconst 0, 1) := by decide +kernel
theorem dX6_isOne_172 : decode cX6_isOne 172 = .ok (.istore 5, 2) := by decide +kernel
theorem dX6_isOne_174 : decode cX6_isOne 174 = .ok (.iinc 6 1, 3) := by decide +kernel
theorem dX6_isOne_177 : decode cX6_isOne 177 = .ok (.goto (-119), 3) := by decide +kernel
theorem dX6_isOne_180 : decode cX6_isOne 180 = .ok (.iload 5, 2) := by decide +kernel
theorem dX6_isOne_182 : decode cX6_isOne 182 = .ok (.ireturn, 1) := by decide +kernel
theorem dX6_isTwo_0 : decode cX6_isTwo 0 = .ok (.aload_n 0, 1) := by decide +kernel
theorem dX6_isTwo_1 : decode cX6_isTwo 1 = .ok (.getfield 49, 3) := by decide +kernel
theorem dX6_isTwo_4 : decode cX6_isTwo 4 = .ok (.iconst 0, 1) := by decide +kernel
theorem dX6_isTwo_5 : decode cX6_isTwo 5 = .ok (.iaload, 1) := by decide +kernel
theorem dX6_isTwo_6 : decode cX6_isTwo 6 = .ok (.aload_n 0, 1) := by decide +kernel
theorem dX6_isTwo_7 : decode cX6_isTwo 7 = .ok (.getfield 52, 3) := by decide +kernel
theorem dX6_isTwo_10 : decode cX6_isTwo 10 = .ok (.iconst 1, 1) := by decide +kernel
theorem dX6_isTwo_11 : decode cX6_isTwo 11 = .ok (.iaload, 1) := by decide +kernel
theorem dX6_isTwo_12 : decode cX6_isTwo 12 = .ok (.invokestatic 138, 3) := by decide +kernel
theorem dX6_isTwo_15 : decode cX6_isTwo 15 = .ok (.aload_n 0, 1) := by decide +kernel
theorem dX6_isTwo_16 : decode cX6_isTwo 16 = .ok (.getfield 49, 3) := by decide +kernel
theorem dX6_isTwo_19 : decode cX6_isTwo 19 = .ok (.iconst 1, 1) := by decide +kernel
theorem dX6_isTwo_20 : decode cX6_isTwo 20 = .ok (.iaload, 1) := by decide +kernel
theorem dX6_isTwo_21 : decode cX6_isTwo 21 = .ok (.aload_n 0, 1) := by decide +kernel
theorem dX6_isTwo_22 : decode cX6_isTwo 22 = .ok (.getfield 52, 3) := by decide +kernel
theorem dX6_isTwo_25 : decode cX6_isTwo 25 = .ok (.iconst 0, 1) := by decide +kernel
theorem dX6_isTwo_26 : decode cX6_isTwo 26 = .ok (.iaload, 1) := by decide +kernel
theorem dX6_isTwo_27 : decode cX6_isTwo 27 = .ok (.invokestatic 138, 3) := by decide +kernel
theorem dX6_isTwo_30 : decode cX6_isTwo 30 = .ok (.ixor, 1) := by decide +kernel
theorem dX6_isTwo_31 : decode cX6_isTwo 31 = .ok (.istore_n 2, 1) := by decide +kernel
theorem dX6_isTwo_32 : decode cX6_isTwo 32 = .ok (.iconst 0, 1) := by decide +kernel
theorem dX6_isTwo_33 : decode cX6_isTwo 33 = .ok (.istore_n 3, 1) := by decide +kernel
theorem dX6_isTwo_34 : decode cX6_isTwo 34 = .ok (.iload_n 3, 1) := by decide +kernel
theorem dX6_isTwo_35 : decode cX6_isTwo 35 = .ok (.bipush 24, 2) := by decide +kernel
theorem dX6_isTwo_37 : decode cX6_isTwo 37 = .ok (.if_icmp .ge 99, 3) := by decide +kernel
theorem dX6_isTwo_40 : decode cX6_isTwo 40 = .ok (.iload_n 1, 1) := by decide +kernel
theorem dX6_isTwo_41 : decode cX6_isTwo 41 = .ok (.ifCond .eq 95, 3) := by decide +kernel
theorem dX6_isTwo_44 : decode cX6_isTwo 44 = .ok (.iload_n 2, 1) := by decide +kernel
theorem dX6_isTwo_45 : decode cX6_isTwo 45 = .ok (.ifCond .eq 91, 3) := by decide +kernel
theorem dX6_isTwo_48 : decode cX6_isTwo 48 = .ok (.aload_n 0, 1) := by decide +kernel
theorem dX6_isTwo_49 : decode cX6_isTwo 49 = .ok (.getfield 61, 3) := by decide +kernel
theorem dX6_isTwo_52 : decode cX6_isTwo 52 = .ok (.iload_n 3, 1) := by decide +kernel
theorem dX6_isTwo_53 : decode cX6_isTwo 53 = .ok (.aload_n 0, 1) := by decide +kernel
theorem dX6_isTwo_54 : decode cX6_isTwo 54 = .ok (.getfield 55, 3) := by decide +kernel
theorem dX6_isTwo_57 : decode cX6_isTwo 57 = .ok (.iload_n 3, 1) := by decide +kernel
theorem dX6_isTwo_58 : decode cX6_isTwo 58 = .ok (.iaload, 1) := by decide +kernel
theorem dX6_isTwo_59 : decode cX6_isTwo 59 = .ok (.aload_n 0, 1) := by decide +kernel
theorem dX6_isTwo_60 : decode cX6_isTwo 60 = .ok (.getfield 52, 3) := by decide +kernel
theorem dX6_isTwo_63 : decode cX6_isTwo 63 = .ok (.iconst 1, 1) := by decide +kernel
theorem dX6_isTwo_64 : decode cX6_isTwo 64 = .ok (.iaload, 1) := by decide +kernel
theorem dX6_isTwo_65 : decode cX6_isTwo 65 = .ok (.invokestatic 138, 3) := by decide +kernel
theorem dX6_isTwo_68 : decode cX6_isTwo 68 = .ok (.aload_n 0, 1) := by decide +kernel
theorem dX6_isTwo_69 : decode cX6_isTwo 69 = .ok (.getfield 58, 3) := by decide +kernel
theorem dX6_isTwo_72 : decode cX6_isTwo 72 = .ok (.iload_n 3, 1) := by decide +kernel
theorem dX6_isTwo_73 : decode cX6_isTwo 73 = .ok (.iaload, 1) := by decide +kernel
theorem dX6_isTwo_74 : decode cX6_isTwo 74 = .ok (.aload_n 0, 1) := by decide +kernel
theorem dX6_isTwo_75 : decode cX6_isTwo 75 = .ok (.getfield 49, 3) := by decide +kernel
theorem dX6_isTwo_78 : decode cX6_isTwo 78 = .ok (.iconst 1, 1) := by decide +kernel
theorem dX6_isTwo_79 : decode cX6_isTwo 79 = .ok (.iaload, 1) := by decide +kernel
theorem dX6_isTwo_80 : decode cX6_isTwo 80 = .ok (.invokestatic 138, 3) := by decide +kernel
theorem dX6_isTwo_83 : decode cX6_isTwo 83 = .ok (.ixor, 1) := by decide +kernel
theorem dX6_isTwo_84 : decode cX6_isTwo 84 = .ok (.iload_n 2, 1) := by decide +kernel
theorem dX6_isTwo_85 : decode cX6_isTwo 85 = .ok (.invokestatic 175, 3) := by decide +kernel
theorem dX6_isTwo_88 : decode cX6_isTwo 88 = .ok (.iastore, 1) := by decide +kernel
theorem dX6_isTwo_89 : decode cX6_isTwo 89 = .ok (.aload_n 0, 1) := by decide +kernel
theorem dX6_isTwo_90 : decode cX6_isTwo 90 = .ok (.getfield 64, 3) := by decide +kernel
theorem dX6_isTwo_93 : decode cX6_isTwo 93 = .ok (.iload_n 3, 1) := by decide +kernel
theorem dX6_isTwo_94 : decode cX6_isTwo 94 = .ok (.aload_n 0, 1) := by decide +kernel
theorem dX6_isTwo_95 : decode cX6_isTwo 95 = .ok (.getfield 58, 3) := by decide +kernel
theorem dX6_isTwo_98 : decode cX6_isTwo 98 = .ok (.iload_n 3, 1) := by decide +kernel
theorem dX6_isTwo_99 : decode cX6_isTwo 99 = .ok (.iaload, 1) := by decide +kernel
theorem dX6_isTwo_100 : decode cX6_isTwo 100 = .ok (.aload_n 0, 1) := by decide +kernel
theorem dX6_isTwo_101 : decode cX6_isTwo 101 = .ok (.getfield 49, 3) := by decide +kernel
theorem dX6_isTwo_104 : decode cX6_isTwo 104 = .ok (.iconst 0, 1) := by decide +kernel
theorem dX6_isTwo_105 : decode cX6_isTwo 105 = .ok (.iaload, 1) := by decide +kernel
theorem dX6_isTwo_106 : decode cX6_isTwo 106 = .ok (.invokestatic 138, 3) := by decide +kernel
theorem dX6_isTwo_109 : decode cX6_isTwo 109 = .ok (.aload_n 0, 1) := by decide +kernel
theorem dX6_isTwo_110 : decode cX6_isTwo 110 = .ok (.getfield 55, 3) := by decide +kernel
theorem dX6_isTwo_113 : decode cX6_isTwo 113 = .ok (.iload_n 3, 1) := by decide +kernel
theorem dX6_isTwo_114 : decode cX6_isTwo 114 = .ok (.iaload, 1) := by decide +kernel
theorem dX6_isTwo_115 : decode cX6_isTwo 115 = .ok (.aload_n 0, 1) := by decide +kernel
theorem dX6_isTwo_116 : decode cX6_isTwo 116 = .ok (.getfield 52, 3) := by decide +kernel
theorem dX6_isTwo_119 : decode cX6_isTwo 119 = .ok (.iconst 0, 1) := by decide +kernel
theorem dX6_isTwo_120 : decode cX6_isTwo 120 = .ok (.iaload, 1) := by decide +kernel
theorem dX6_isTwo_121 : decode cX6_isTwo 121 = .ok (.invokestatic 138, 3) := by decide +kernel
theorem dX6_isTwo_124 : decode cX6_isTwo 124 = .ok (.ixor, 1) := by decide +kernel
theorem dX6_isTwo_125 : decode cX6_isTwo 125 = .ok (.iload_n 2, 1) := by decide +kernel
theorem dX6_isTwo_126 : decode cX6_isTwo 126 = .ok (.invokestatic 175, 3) := by decide +kernel
theorem dX6_isTwo_129 : decode cX6_isTwo 129 = .ok (.iastore, 1) := by decide +kernel
theorem dX6_isTwo_130 : decode cX6_isTwo 130 = .ok (.iinc 3 1, 3) := by decide +kernel
theorem dX6_isTwo_133 : decode cX6_isTwo 133 = .ok (.goto (-99), 3) := by decide +kernel
theorem dX6_isTwo_136 : decode cX6_isTwo 136 = .ok (.iload_n 1, 1) := by decide +kernel
theorem dX6_isTwo_137 : decode cX6_isTwo 137 = .ok (.ifCond .eq 11, 3) := by decide +kernel
theorem dX6_isTwo_140 : decode cX6_isTwo 140 = .ok (.iload_n 2, 1) := by decide +kernel
theorem dX6_isTwo_141 : decode cX6_isTwo 141 = .ok (.ifCond .eq 7, 3) := by decide +kernel
theorem dX6_isTwo_144 : decode cX6_isTwo 144 = .ok (.iconst 1, 1) := by decide +kernel
theorem dX6_isTwo_145 : decode cX6_isTwo 145 = .ok (.goto 4, 3) := by decide +kernel
theorem dX6_isTwo_148 : decode cX6_isTwo 148 = .ok (.iconst 0, 1) := by decide +kernel
theorem dX6_isTwo_149 : decode cX6_isTwo 149 = .ok (.ireturn, 1) := by decide +kernel
end
section
theorem dX6_missingAt_0 : decode cX6_missingAt 0 = .ok (.iconst 0, 1) := by decide +kernel
theorem dX6_missingAt_1 : decode cX6_missingAt 1 = .ok (.istore_n 2, 1) := by decide +kernel
theorem dX6_missingAt_2 : decode cX6_missingAt 2 = .ok (.iconst 0, 1) := by decide +kernel
theorem dX6_missingAt_3 : decode cX6_missingAt 3 = .ok (.istore_n 3, 1) := by decide +kernel
theorem dX6_missingAt_4 : decode cX6_missingAt 4 = .ok (.iload_n 3, 1) := by decide +kernel
theorem dX6_missingAt_5 : decode cX6_missingAt 5 = .ok (.aload_n 0, 1) := by decide +kernel
theorem dX6_missingAt_6 : decode cX6_missingAt 6 = .ok (.iload_n 1, 1) := by decide +kernel
theorem dX6_missingAt_7 : decode cX6_missingAt 7 = .ok (.invokevirtual 106, 3) := by decide +kernel
theorem dX6_missingAt_10 : decode cX6_missingAt 10 = .ok (.if_icmp .ge 30, 3) := by decide +kernel
theorem dX6_missingAt_13 : decode cX6_missingAt 13 = .ok (.iload_n 2, 1) := by decide +kernel
theorem dX6_missingAt_14 : decode cX6_missingAt 14 = .ok (.aload_n 0, 1) := by decide +kernel
theorem dX6_missingAt_15 : decode cX6_missingAt 15 = .ok (.aload_n 0, 1) := by decide +kernel
theorem dX6_missingAt_16 : decode cX6_missingAt 16 = .ok (.iload_n 1, 1) := by decide +kernel
theorem dX6_missingAt_17 : decode cX6_missingAt 17 = .ok (.iload_n 3, 1) := by decide +kernel
theorem dX6_missingAt_18 : decode cX6_missingAt 18 = .ok (.invokevirtual 109, 3) := by decide +kernel
theorem dX6_missingAt_21 : decode cX6_missingAt 21 = .ok (.invokevirtual 113, 3) := by decide +kernel
theorem dX6_missingAt_24 : decode cX6_missingAt 24 = .ok (.ifCond .eq 7, 3) := by decide +kernel
theorem dX6_missingAt_27 : decode cX6_missingAt 27 = .ok (.iconst 0, 1) := by decide +kernel
theorem dX6_missingAt_28 : decode cX6_missingAt 28 = .ok (.goto 4, 3) := by decide +kernel
theorem dX6_missingAt_31 : decode cX6_missingAt 31 = .ok (.iconst 1, 1) := by decide +kernel
theorem dX6_missingAt_32 : decode cX6_missingAt 32 = .ok (.iadd, 1) := by decide +kernel
theorem dX6_missingAt_33 : decode cX6_missingAt 33 = .ok (.istore_n 2, 1) := by decide +kernel
theorem dX6_missingAt_34 : decode cX6_missingAt 34 = .ok (.iinc 3 1, 3) := by decide +kernel
theorem dX6_missingAt_37 : decode cX6_missingAt 37 = .ok (.goto (-33), 3) := by decide +kernel
theorem dX6_missingAt_40 : decode cX6_missingAt 40 = .ok (.iload_n 2, 1) := by decide +kernel
theorem dX6_missingAt_41 : decode cX6_missingAt 41 = .ok (.ireturn, 1) := by decide +kernel
theorem dX6_sync_0 : decode cX6_sync 0 = .ok (.aload_n 0, 1) := by decide +kernel
theorem dX6_sync_1 : decode cX6_sync 1 = .ok (.iconst 0, 1) := by decide +kernel
theorem dX6_sync_2 : decode cX6_sync 2 = .ok (.putfield 70, 3) := by decide +kernel
theorem dX6_sync_5 : decode cX6_sync 5 = .ok (.aload_n 0, 1) := by decide +kernel
theorem dX6_sync_6 : decode cX6_sync 6 = .ok (.getfield 17, 3) := by decide +kernel
theorem dX6_sync_9 : decode cX6_sync 9 = .ok (.ifCond .ne 6, 3) := by decide +kernel
theorem dX6_sync_12 : decode cX6_sync 12 = .ok (.bipush (-3), 2) := by decide +kernel
theorem dX6_sync_14 : decode cX6_sync 14 = .ok (.ireturn, 1) := by decide +kernel
theorem dX6_sync_15 : decode cX6_sync 15 = .ok (.aload_n 0, 1) := by decide +kernel
theorem dX6_sync_16 : decode cX6_sync 16 = .ok (.dup, 1) := by decide +kernel
theorem dX6_sync_17 : decode cX6_sync 17 = .ok (.getfield 153, 3) := by decide +kernel
theorem dX6_sync_20 : decode cX6_sync 20 = .ok (.iconst 1, 1) := by decide +kernel
theorem dX6_sync_21 : decode cX6_sync 21 = .ok (.iadd, 1) := by decide +kernel
theorem dX6_sync_22 : decode cX6_sync 22 = .ok (.putfield 153, 3) := by decide +kernel
theorem dX6_sync_25 : decode cX6_sync 25 = .ok (.aload_n 0, 1) := by decide +kernel
theorem dX6_sync_26 : decode cX6_sync 26 = .ok (.aload_n 0, 1) := by decide +kernel
theorem dX6_sync_27 : decode cX6_sync 27 = .ok (.getfield 153, 3) := by decide +kernel
theorem dX6_sync_30 : decode cX6_sync 30 = .ok (.invokevirtual 156, 3) := by decide +kernel
theorem dX6_sync_33 : decode cX6_sync 33 = .ok (.aload_n 0, 1) := by decide +kernel
theorem dX6_sync_34 : decode cX6_sync 34 = .ok (.aload_n 0, 1) := by decide +kernel
theorem dX6_sync_35 : decode cX6_sync 35 = .ok (.getfield 153, 3) := by decide +kernel
theorem dX6_sync_38 : decode cX6_sync 38 = .ok (.iconst 1, 1) := by decide +kernel
theorem dX6_sync_39 : decode cX6_sync 39 = .ok (.iand, 1) := by decide +kernel
theorem dX6_sync_40 : decode cX6_sync 40 = .ok (.invokevirtual 96, 3) := by decide +kernel
theorem dX6_sync_43 : decode cX6_sync 43 = .ok (.aload_n 0, 1) := by decide +kernel
theorem dX6_sync_44 : decode cX6_sync 44 = .ok (.iconst 0, 1) := by decide +kernel
theorem dX6_sync_45 : decode cX6_sync 45 = .ok (.putfield 93, 3) := by decide +kernel
theorem dX6_sync_48 : decode cX6_sync 48 = .ok (.aload_n 0, 1) := by decide +kernel
theorem dX6_sync_49 : decode cX6_sync 49 = .ok (.getfield 153, 3) := by decide +kernel
theorem dX6_sync_52 : decode cX6_sync 52 = .ok (.ireturn, 1) := by decide +kernel
theorem dX6_blockFor_0 : decode cX6_blockFor 0 = .ok (.aload_n 0, 1) := by decide +kernel
theorem dX6_blockFor_1 : decode cX6_blockFor 1 = .ok (.iconst 2, 1) := by decide +kernel
theorem dX6_blockFor_2 : decode cX6_blockFor 2 = .ok (.iconst 0, 1) := by decide +kernel
theorem dX6_blockFor_3 : decode cX6_blockFor 3 = .ok (.iconst 0, 1) := by decide +kernel
theorem dX6_blockFor_4 : decode cX6_blockFor 4 = .ok (.iconst 0, 1) := by decide +kernel
theorem dX6_blockFor_5 : decode cX6_blockFor 5 = .ok (.invokevirtual 121, 3) := by decide +kernel
theorem dX6_blockFor_8 : decode cX6_blockFor 8 = .ok (.iconst 0, 1) := by decide +kernel
theorem dX6_blockFor_9 : decode cX6_blockFor 9 = .ok (.istore_n 2, 1) := by decide +kernel
theorem dX6_blockFor_10 : decode cX6_blockFor 10 = .ok (.iload_n 2, 1) := by decide +kernel
theorem dX6_blockFor_11 : decode cX6_blockFor 11 = .ok (.bipush 24, 2) := by decide +kernel
theorem dX6_blockFor_13 : decode cX6_blockFor 13 = .ok (.if_icmp .ge 39, 3) := by decide +kernel
theorem dX6_blockFor_16 : decode cX6_blockFor 16 = .ok (.aload_n 0, 1) := by decide +kernel
theorem dX6_blockFor_17 : decode cX6_blockFor 17 = .ok (.getfield 40, 3) := by decide +kernel
theorem dX6_blockFor_20 : decode cX6_blockFor 20 = .ok (.iconst 4, 1) := by decide +kernel
theorem dX6_blockFor_21 : decode cX6_blockFor 21 = .ok (.iload_n 2, 1) := by decide +kernel
theorem dX6_blockFor_22 : decode cX6_blockFor 22 = .ok (.iadd, 1) := by decide +kernel
theorem dX6_blockFor_23 : decode cX6_blockFor 23 = .ok (.iload_n 1, 1) := by decide +kernel
theorem dX6_blockFor_24 : decode cX6_blockFor 24 = .ok (.iload_n 2, 1) := by decide +kernel
theorem dX6_blockFor_25 : decode cX6_blockFor 25 = .ok (.iadd, 1) := by decide +kernel
theorem dX6_blockFor_26 : decode cX6_blockFor 26 = .ok (.aload_n 0, 1) := by decide +kernel
theorem dX6_blockFor_27 : decode cX6_blockFor 27 = .ok (.getfield 116, 3) := by decide +kernel
theorem dX6_blockFor_30 : decode cX6_blockFor 30 = .ok (.if_icmp .ge 14, 3) := by decide +kernel
theorem dX6_blockFor_33 : decode cX6_blockFor 33 = .ok (.aload_n 0, 1) := by decide +kernel
theorem dX6_blockFor_34 : decode cX6_blockFor 34 = .ok (.getfield 28, 3) := by decide +kernel
theorem dX6_blockFor_37 : decode cX6_blockFor 37 = .ok (.iload_n 1, 1) := by decide +kernel
theorem dX6_blockFor_38 : decode cX6_blockFor 38 = .ok (.iload_n 2, 1) := by decide +kernel
theorem dX6_blockFor_39 : decode cX6_blockFor 39 = .ok (.iadd, 1) := by decide +kernel
theorem dX6_blockFor_40 : decode cX6_blockFor 40 = .ok (.iaload, 1) := by decide +kernel
theorem dX6_blockFor_41 : decode cX6_blockFor 41 = .ok (.goto 4, 3) := by decide +kernel
theorem dX6_blockFor_44 : decode cX6_blockFor 44 = .ok (.iconst 0, 1) := by decide +kernel
theorem dX6_blockFor_45 : decode cX6_blockFor 45 = .ok (.iastore, 1) := by decide +kernel
theorem dX6_blockFor_46 : decode cX6_blockFor 46 = .ok (.iinc 2 1, 3) := by decide +kernel
theorem dX6_blockFor_49 : decode cX6_blockFor 49 = .ok (.goto (-39), 3) := by decide +kernel
theorem dX6_blockFor_52 : decode cX6_blockFor 52 = .ok (.iconst 2, 1) := by decide +kernel
theorem dX6_blockFor_53 : decode cX6_blockFor 53 = .ok (.istore_n 2, 1) := by decide +kernel
theorem dX6_blockFor_54 : decode cX6_blockFor 54 = .ok (.iload_n 2, 1) := by decide +kernel
theorem dX6_blockFor_55 : decode cX6_blockFor 55 = .ok (.aload_n 0, 1) := by decide +kernel
theorem dX6_blockFor_56 : decode cX6_blockFor 56 = .ok (.getfield 21, 3) := by decide +kernel
theorem dX6_blockFor_59 : decode cX6_blockFor 59 = .ok (.if_icmp .ge 92, 3) := by decide +kernel
theorem dX6_blockFor_62 : decode cX6_blockFor 62 = .ok (.aload_n 0, 1) := by decide +kernel
theorem dX6_blockFor_63 : decode cX6_blockFor 63 = .ok (.iload_n 2, 1) := by decide +kernel
theorem dX6_blockFor_64 : decode cX6_blockFor 64 = .ok (.invokevirtual 86, 3) := by decide +kernel
theorem dX6_blockFor_67 : decode cX6_blockFor 67 = .ok (.iconst 2, 1) := by decide +kernel
theorem dX6_blockFor_68 : decode cX6_blockFor 68 = .ok (.if_icmp .ne 7, 3) := by decide +kernel
theorem dX6_blockFor_71 : decode cX6_blockFor 71 = .ok (.iconst 1, 1) := by decide +kernel
theorem dX6_blockFor_72 : decode cX6_blockFor 72 = .ok (.goto 4, 3) := by decide +kernel
theorem dX6_blockFor_75 : decode cX6_blockFor 75 = .ok (.iconst 0, 1) := by decide +kernel
theorem dX6_blockFor_76 : decode cX6_blockFor 76 = .ok (.istore_n 3, 1) := by decide +kernel
theorem dX6_blockFor_77 : decode cX6_blockFor 77 = .ok (.iconst 0, 1) := by decide +kernel
theorem dX6_blockFor_78 : decode cX6_blockFor 78 = .ok (.istore 4, 2) := by decide +kernel
theorem dX6_blockFor_80 : decode cX6_blockFor 80 = .ok (.iload 4, 2) := by decide +kernel
theorem dX6_blockFor_82 : decode cX6_blockFor 82 = .ok (.bipush 24, 2) := by decide +kernel
theorem dX6_blockFor_84 : decode cX6_blockFor 84 = .ok (.if_icmp .ge 45, 3) := by decide +kernel
theorem dX6_blockFor_87 : decode cX6_blockFor 87 = .ok (.iload_n 3, 1) := by decide +kernel
theorem dX6_blockFor_88 : decode cX6_blockFor 88 = .ok (.ifCond .eq 41, 3) := by decide +kernel
theorem dX6_blockFor_91 : decode cX6_blockFor 91 = .ok (.aload_n 0, 1) := by decide +kernel
theorem dX6_blockFor_92 : decode cX6_blockFor 92 = .ok (.getfield 7, 3) := by decide +kernel
theorem dX6_blockFor_95 : decode cX6_blockFor 95 = .ok (.bipush 32, 2) := by decide +kernel
theorem dX6_blockFor_97 : decode cX6_blockFor 97 = .ok (.iload_n 2, 1) := by decide +kernel
theorem dX6_blockFor_98 : decode cX6_blockFor 98 = .ok (.imul, 1) := by decide +kernel
theorem dX6_blockFor_99 : decode cX6_blockFor 99 = .ok (.iconst 4, 1) := by decide +kernel
theorem dX6_blockFor_100 : decode cX6_blockFor 100 = .ok (.iadd, 1) := by decide +kernel
theorem dX6_blockFor_101 : decode cX6_blockFor 101 = .ok (.iload 4, 2) := by decide +kernel
theorem dX6_blockFor_103 : decode cX6_blockFor 103 = .ok (.iadd, 1) := by decide +kernel
theorem dX6_blockFor_104 : decode cX6_blockFor 104 = .ok (.iaload, 1) := by decide +kernel
theorem dX6_blockFor_105 : decode cX6_blockFor 105 = .ok (.aload_n 0, 1) := by decide +kernel
theorem dX6_blockFor_106 : decode cX6_blockFor 106 = .ok (.getfield 40, 3) := by decide +kernel
theorem dX6_blockFor_109 : decode cX6_blockFor 109 = .ok (.iconst 4, 1) := by decide +kernel
theorem dX6_blockFor_110 : decode cX6_blockFor 110 = .ok (.iload 4, 2) := by decide +kernel
theorem dX6_blockFor_112 : decode cX6_blockFor 112 = .ok (.iadd, 1) := by decide +kernel
theorem dX6_blockFor_113 : decode cX6_blockFor 113 = .ok (.iaload, 1) := by decide +kernel
theorem dX6_blockFor_114 : decode cX6_blockFor 114 = .ok (.if_icmp .ne 7, 3) := by decide +kernel
theorem dX6_blockFor_117 : decode cX6_blockFor 117 = .ok (.iconst 1, 1) := by decide +kernel
theorem dX6_blockFor_118 : decode cX6_blockFor 118 = .ok (.goto 4, 3) := by decide +kernel
theorem dX6_blockFor_121 : decode cX6_blockFor 121 = .ok (.iconst 0, 1) := by decide +kernel
theorem dX6_blockFor_122 : decode cX6_blockFor 122 = .ok (.istore_n 3, 1) := by decide +kernel
theorem dX6_blockFor_123 : decode cX6_blockFor 123 = .ok (.iinc 4 1, 3) := by decide +kernel
theorem dX6_blockFor_126 : decode cX6_blockFor 126 = .ok (.goto (-46), 3) := by decide +kernel
theorem dX6_blockFor_129 : decode cX6_blockFor 129 = .ok (.iload_n 3, 1) := by decide +kernel
theorem dX6_blockFor_130 : decode cX6_blockFor 130 = .ok (.ifCond .eq 15, 3) := by decide +kernel
theorem dX6_blockFor_133 : decode cX6_blockFor 133 = .ok (.aload_n 0, 1) := by decide +kernel
theorem dX6_blockFor_134 : decode cX6_blockFor 134 = .ok (.dup, 1) := by decide +kernel
theorem dX6_blockFor_135 : decode cX6_blockFor 135 = .ok (.getfield 125, 3) := by decide +kernel
theorem dX6_blockFor_138 : decode cX6_blockFor 138 = .ok (.iconst 1, 1) := by decide +kernel
theorem dX6_blockFor_139 : decode cX6_blockFor 139 = .ok (.iadd, 1) := by decide +kernel
theorem dX6_blockFor_140 : decode cX6_blockFor 140 = .ok (.putfield 125, 3) := by decide +kernel
theorem dX6_blockFor_143 : decode cX6_blockFor 143 = .ok (.iload_n 2, 1) := by decide +kernel
theorem dX6_blockFor_144 : decode cX6_blockFor 144 = .ok (.ireturn, 1) := by decide +kernel
theorem dX6_blockFor_145 : decode cX6_blockFor 145 = .ok (.iinc 2 1, 3) := by decide +kernel
theorem dX6_blockFor_148 : decode cX6_blockFor 148 = .ok (.goto (-94), 3) := by decide +kernel
theorem dX6_blockFor_151 : decode cX6_blockFor 151 = .ok (.aload_n 0, 1) := by decide +kernel
theorem dX6_blockFor_152 : decode cX6_blockFor 152 = .ok (.invokevirtual 128, 3) := by decide +kernel
theorem dX6_blockFor_155 : decode cX6_blockFor 155 = .ok (.ireturn, 1) := by decide +kernel
theorem dX6_listed_0 : decode cX6_listed 0 = .ok (.aload_n 0, 1) := by decide +kernel
theorem dX6_listed_1 : decode cX6_listed 1 = .ok (.iconst 0, 1) := by decide +kernel
theorem dX6_listed_2 : decode cX6_listed 2 = .ok (.putfield 70, 3) := by decide +kernel
theorem dX6_listed_5 : decode cX6_listed 5 = .ok (.iconst 0, 1) := by decide +kernel
theorem dX6_listed_6 : decode cX6_listed 6 = .ok (.istore_n 2, 1) := by decide +kernel
theorem dX6_listed_7 : decode cX6_listed 7 = .ok (.iconst 0, 1) := by decide +kernel
theorem dX6_listed_8 : decode cX6_listed 8 = .ok (.istore_n 3, 1) := by decide +kernel
theorem dX6_listed_9 : decode cX6_listed 9 = .ok (.iload_n 3, 1) := by decide +kernel
theorem dX6_listed_10 : decode cX6_listed 10 = .ok (.aload_n 0, 1) := by decide +kernel
theorem dX6_listed_11 : decode cX6_listed 11 = .ok (.getfield 100, 3) := by decide +kernel
theorem dX6_listed_14 : decode cX6_listed 14 = .ok (.if_icmp .ge 48, 3) := by decide +kernel
theorem dX6_listed_17 : decode cX6_listed 17 = .ok (.aload_n 0, 1) := by decide +kernel
theorem dX6_listed_18 : decode cX6_listed 18 = .ok (.getfield 17, 3) := by decide +kernel
theorem dX6_listed_21 : decode cX6_listed 21 = .ok (.ifCond .eq 41, 3) := by decide +kernel
theorem dX6_listed_24 : decode cX6_listed 24 = .ok (.aload_n 0, 1) := by decide +kernel
theorem dX6_listed_25 : decode cX6_listed 25 = .ok (.iload_n 3, 1) := by decide +kernel
theorem dX6_listed_26 : decode cX6_listed 26 = .ok (.invokevirtual 144, 3) := by decide +kernel
theorem dX6_listed_29 : decode cX6_listed 29 = .ok (.istore 4, 2) := by decide +kernel
theorem dX6_listed_31 : decode cX6_listed 31 = .ok (.iload 4, 2) := by decide +kernel
theorem dX6_listed_33 : decode cX6_listed 33 = .ok (.iconst (-1), 1) := by decide +kernel
theorem dX6_listed_34 : decode cX6_listed 34 = .ok (.if_icmp .eq 12, 3) := by decide +kernel
theorem dX6_listed_37 : decode cX6_listed 37 = .ok (.aload_n 0, 1) := by decide +kernel
theorem dX6_listed_38 : decode cX6_listed 38 = .ok (.iload 4, 2) := by decide +kernel
theorem dX6_listed_40 : decode cX6_listed 40 = .ok (.invokevirtual 147, 3) := by decide +kernel
theorem dX6_listed_43 : decode cX6_listed 43 = .ok (.ifCond .le 13, 3) := by decide +kernel
theorem dX6_listed_46 : decode cX6_listed 46 = .ok (.iload_n 2, 1) := by decide +kernel
theorem dX6_listed_47 : decode cX6_listed 47 = .ok (.iload_n 1, 1) := by decide +kernel
theorem dX6_listed_48 : decode cX6_listed 48 = .ok (.if_icmp .ne 5, 3) := by decide +kernel
theorem dX6_listed_51 : decode cX6_listed 51 = .ok (.iload_n 3, 1) := by decide +kernel
theorem dX6_listed_52 : decode cX6_listed 52 = .ok (.ireturn, 1) := by decide +kernel
theorem dX6_listed_53 : decode cX6_listed 53 = .ok (.iinc 2 1, 3) := by decide +kernel
theorem dX6_listed_56 : decode cX6_listed 56 = .ok (.iinc 3 1, 3) := by decide +kernel
theorem dX6_listed_59 : decode cX6_listed 59 = .ok (.goto (-50), 3) := by decide +kernel
theorem dX6_listed_62 : decode cX6_listed 62 = .ok (.iconst (-1), 1) := by decide +kernel
theorem dX6_listed_63 : decode cX6_listed 63 = .ok (.ireturn, 1) := by decide +kernel
theorem dX6_protect_0 : decode cX6_protect 0 = .ok (.aload_n 0, 1) := by decide +kernel
theorem dX6_protect_1 : decode cX6_protect 1 = .ok (.iconst 0, 1) := by decide +kernel
theorem dX6_protect_2 : decode cX6_protect 2 = .ok (.putfield 70, 3) := by decide +kernel
theorem dX6_protect_5 : decode cX6_protect 5 = .ok (.aload_n 0, 1) := by decide +kernel
theorem dX6_protect_6 : decode cX6_protect 6 = .ok (.iload_n 1, 1) := by decide +kernel
theorem dX6_protect_7 : decode cX6_protect 7 = .ok (.invokevirtual 141, 3) := by decide +kernel
theorem dX6_protect_10 : decode cX6_protect 10 = .ok (.ifCond .eq 12, 3) := by decide +kernel
theorem dX6_protect_13 : decode cX6_protect 13 = .ok (.iload_n 2, 1) := by decide +kernel
theorem dX6_protect_14 : decode cX6_protect 14 = .ok (.iconst 1, 1) := by decide +kernel
theorem dX6_protect_15 : decode cX6_protect 15 = .ok (.iconst 2, 1) := by decide +kernel
theorem dX6_protect_16 : decode cX6_protect 16 = .ok (.invokestatic 73, 3) := by decide +kernel
theorem dX6_protect_19 : decode cX6_protect 19 = .ok (.ifCond .ne 6, 3) := by decide +kernel
theorem dX6_protect_22 : decode cX6_protect 22 = .ok (.bipush (-2), 2) := by decide +kernel
theorem dX6_protect_24 : decode cX6_protect 24 = .ok (.ireturn, 1) := by decide +kernel
theorem dX6_protect_25 : decode cX6_protect 25 = .ok (.aload_n 0, 1) := by decide +kernel
theorem dX6_protect_26 : decode cX6_protect 26 = .ok (.getfield 17, 3) := by decide +kernel
theorem dX6_protect_29 : decode cX6_protect 29 = .ok (.ifCond .eq 11, 3) := by decide +kernel
theorem dX6_protect_32 : decode cX6_protect 32 = .ok (.aload_n 0, 1) := by decide +kernel
theorem dX6_protect_33 : decode cX6_protect 33 = .ok (.iload_n 1, 1) := by decide +kernel
theorem dX6_protect_34 : decode cX6_protect 34 = .ok (.invokevirtual 144, 3) := by decide +kernel
theorem dX6_protect_37 : decode cX6_protect 37 = .ok (.goto 4, 3) := by decide +kernel
theorem dX6_protect_40 : decode cX6_protect 40 = .ok (.iconst (-1), 1) := by decide +kernel
theorem dX6_protect_41 : decode cX6_protect 41 = .ok (.istore_n 3, 1) := by decide +kernel
theorem dX6_protect_42 : decode cX6_protect 42 = .ok (.iload_n 3, 1) := by decide +kernel
theorem dX6_protect_43 : decode cX6_protect 43 = .ok (.iconst (-1), 1) := by decide +kernel
theorem dX6_protect_44 : decode cX6_protect 44 = .ok (.if_icmp .eq 11, 3) := by decide +kernel
theorem dX6_protect_47 : decode cX6_protect 47 = .ok (.aload_n 0, 1) := by decide +kernel
theorem dX6_protect_48 : decode cX6_protect 48 = .ok (.iload_n 3, 1) := by decide +kernel
theorem dX6_protect_49 : decode cX6_protect 49 = .ok (.invokevirtual 147, 3) := by decide +kernel
theorem dX6_protect_52 : decode cX6_protect 52 = .ok (.ifCond .le 6, 3) := by decide +kernel
theorem dX6_protect_55 : decode cX6_protect 55 = .ok (.bipush (-3), 2) := by decide +kernel
theorem dX6_protect_57 : decode cX6_protect 57 = .ok (.ireturn, 1) := by decide +kernel
theorem dX6_protect_58 : decode cX6_protect 58 = .ok (.aload_n 0, 1) := by decide +kernel
theorem dX6_protect_59 : decode cX6_protect 59 = .ok (.getfield 67, 3) := by decide +kernel
theorem dX6_protect_62 : decode cX6_protect 62 = .ok (.aload_n 0, 1) := by decide +kernel
theorem dX6_protect_63 : decode cX6_protect 63 = .ok (.getfield 21, 3) := by decide +kernel
theorem dX6_protect_66 : decode cX6_protect 66 = .ok (.isub, 1) := by decide +kernel
theorem dX6_protect_67 : decode cX6_protect 67 = .ok (.iload_n 2, 1) := by decide +kernel
theorem dX6_protect_68 : decode cX6_protect 68 = .ok (.aload_n 0, 1) := by decide +kernel
theorem dX6_protect_69 : decode cX6_protect 69 = .ok (.getfield 25, 3) := by decide +kernel
theorem dX6_protect_72 : decode cX6_protect 72 = .ok (.iconst (-1), 1) := by decide +kernel
theorem dX6_protect_73 : decode cX6_protect 73 = .ok (.if_icmp .ne 7, 3) := by decide +kernel
theorem dX6_protect_76 : decode cX6_protect 76 = .ok (.iconst 0, 1) := by decide +kernel
theorem dX6_protect_77 : decode cX6_protect 77 = .ok (.goto 4, 3) := by decide +kernel
theorem dX6_protect_80 : decode cX6_protect 80 = .ok (.iconst 5, 1) := by decide +kernel
theorem dX6_protect_81 : decode cX6_protect 81 = .ok (.iadd, 1) := by decide +kernel
theorem dX6_protect_82 : decode cX6_protect 82 = .ok (.if_icmp .ge 6, 3) := by decide +kernel
theorem dX6_protect_85 : decode cX6_protect 85 = .ok (.bipush (-4), 2) := by decide +kernel
theorem dX6_protect_87 : decode cX6_protect 87 = .ok (.ireturn, 1) := by decide +kernel
theorem dX6_protect_88 : decode cX6_protect 88 = .ok (.iconst (-1), 1) := by decide +kernel
theorem dX6_protect_89 : decode cX6_protect 89 = .ok (.istore 4, 2) := by decide +kernel
theorem dX6_protect_91 : decode cX6_protect 91 = .ok (.iconst 0, 1) := by decide +kernel
theorem dX6_protect_92 : decode cX6_protect 92 = .ok (.istore 5, 2) := by decide +kernel
theorem dX6_protect_94 : decode cX6_protect 94 = .ok (.iload 5, 2) := by decide +kernel
theorem dX6_protect_96 : decode cX6_protect 96 = .ok (.iload_n 2, 1) := by decide +kernel
theorem dX6_protect_97 : decode cX6_protect 97 = .ok (.if_icmp .ge 112, 3) := by decide +kernel
theorem dX6_protect_100 : decode cX6_protect 100 = .ok (.aload_n 0, 1) := by decide +kernel
theorem dX6_protect_101 : decode cX6_protect 101 = .ok (.iconst 4, 1) := by decide +kernel
theorem dX6_protect_102 : decode cX6_protect 102 = .ok (.iload_n 1, 1) := by decide +kernel
theorem dX6_protect_103 : decode cX6_protect 103 = .ok (.iload 5, 2) := by decide +kernel
theorem dX6_protect_105 : decode cX6_protect 105 = .ok (.iconst 0, 1) := by decide +kernel
theorem dX6_protect_106 : decode cX6_protect 106 = .ok (.invokevirtual 121, 3) := by decide +kernel
theorem dX6_protect_109 : decode cX6_protect 109 = .ok (.iconst 0, 1) := by decide +kernel
theorem dX6_protect_110 : decode cX6_protect 110 = .ok (.istore 6, 2) := by decide +kernel
theorem dX6_protect_112 : decode cX6_protect 112 = .ok (.iload 6, 2) := by decide +kernel
theorem dX6_protect_114 : decode cX6_protect 114 = .ok (.aload_n 0, 1) := by decide +kernel
theorem dX6_protect_115 : decode cX6_protect 115 = .ok (.iload_n 3, 1) := by decide +kernel
theorem dX6_protect_116 : decode cX6_protect 116 = .ok (.invokevirtual 106, 3) := by decide +kernel
theorem dX6_protect_119 : decode cX6_protect 119 = .ok (.if_icmp .ge 78, 3) := by decide +kernel
theorem dX6_protect_122 : decode cX6_protect 122 = .ok (.bipush 32, 2) := by decide +kernel
theorem dX6_protect_124 : decode cX6_protect 124 = .ok (.aload_n 0, 1) := by decide +kernel
theorem dX6_protect_125 : decode cX6_protect 125 = .ok (.iload_n 3, 1) := by decide +kernel
theorem dX6_protect_126 : decode cX6_protect 126 = .ok (.iload 6, 2) := by decide +kernel
theorem dX6_protect_128 : decode cX6_protect 128 = .ok (.invokevirtual 109, 3) := by decide +kernel
theorem dX6_protect_131 : decode cX6_protect 131 = .ok (.imul, 1) := by decide +kernel
theorem dX6_protect_132 : decode cX6_protect 132 = .ok (.iconst 4, 1) := by decide +kernel
theorem dX6_protect_133 : decode cX6_protect 133 = .ok (.iadd, 1) := by decide +kernel
theorem dX6_protect_134 : decode cX6_protect 134 = .ok (.istore 7, 2) := by decide +kernel
theorem dX6_protect_136 : decode cX6_protect 136 = .ok (.iconst 0, 1) := by decide +kernel
theorem dX6_protect_137 : decode cX6_protect 137 = .ok (.istore 8, 2) := by decide +kernel
theorem dX6_protect_139 : decode cX6_protect 139 = .ok (.iload 8, 2) := by decide +kernel
theorem dX6_protect_141 : decode cX6_protect 141 = .ok (.bipush 24, 2) := by decide +kernel
theorem dX6_protect_143 : decode cX6_protect 143 = .ok (.if_icmp .ge 48, 3) := by decide +kernel
theorem dX6_protect_146 : decode cX6_protect 146 = .ok (.aload_n 0, 1) := by decide +kernel
theorem dX6_protect_147 : decode cX6_protect 147 = .ok (.getfield 40, 3) := by decide +kernel
theorem dX6_protect_150 : decode cX6_protect 150 = .ok (.iconst 4, 1) := by decide +kernel
theorem dX6_protect_151 : decode cX6_protect 151 = .ok (.iload 8, 2) := by decide +kernel
theorem dX6_protect_153 : decode cX6_protect 153 = .ok (.iadd, 1) := by decide +kernel
theorem dX6_protect_154 : decode cX6_protect 154 = .ok (.aload_n 0, 1) := by decide +kernel
theorem dX6_protect_155 : decode cX6_protect 155 = .ok (.getfield 40, 3) := by decide +kernel
theorem dX6_protect_158 : decode cX6_protect 158 = .ok (.iconst 4, 1) := by decide +kernel
theorem dX6_protect_159 : decode cX6_protect 159 = .ok (.iload 8, 2) := by decide +kernel
theorem dX6_protect_161 : decode cX6_protect 161 = .ok (.iadd, 1) := by decide +kernel
theorem dX6_protect_162 : decode cX6_protect 162 = .ok (.iaload, 1) := by decide +kernel
theorem dX6_protect_163 : decode cX6_protect 163 = .ok (.aload_n 0, 1) := by decide +kernel
theorem dX6_protect_164 : decode cX6_protect 164 = .ok (.getfield 7, 3) := by decide +kernel
theorem dX6_protect_167 : decode cX6_protect 167 = .ok (.iload 7, 2) := by decide +kernel
theorem dX6_protect_169 : decode cX6_protect 169 = .ok (.iload 8, 2) := by decide +kernel
theorem dX6_protect_171 : decode cX6_protect 171 = .ok (.iadd, 1) := by decide +kernel
theorem dX6_protect_172 : decode cX6_protect 172 = .ok (.iaload, 1) := by decide +kernel
theorem dX6_protect_173 : decode cX6_protect 173 = .ok (.iload 5, 2) := by decide +kernel
theorem dX6_protect_175 : decode cX6_protect 175 = .ok (.iload 6, 2) := by decide +kernel
theorem dX6_protect_177 : decode cX6_protect 177 = .ok (.invokestatic 150, 3) := by decide +kernel
theorem dX6_protect_180 : decode cX6_protect 180 = .ok (.invokestatic 138, 3) := by decide +kernel
theorem dX6_protect_183 : decode cX6_protect 183 = .ok (.ixor, 1) := by decide +kernel
theorem dX6_protect_184 : decode cX6_protect 184 = .ok (.iastore, 1) := by decide +kernel
theorem dX6_protect_185 : decode cX6_protect 185 = .ok (.iinc 8 1, 3) := by decide +kernel
theorem dX6_protect_188 : decode cX6_protect 188 = .ok (.goto (-49), 3) := by decide +kernel
theorem dX6_protect_191 : decode cX6_protect 191 = .ok (.iinc 6 1, 3) := by decide +kernel
theorem dX6_protect_194 : decode cX6_protect 194 = .ok (.goto (-82), 3) := by decide +kernel
theorem dX6_protect_197 : decode cX6_protect 197 = .ok (.aload_n 0, 1) := by decide +kernel
theorem dX6_protect_198 : decode cX6_protect 198 = .ok (.invokevirtual 128, 3) := by decide +kernel
theorem dX6_protect_201 : decode cX6_protect 201 = .ok (.istore 4, 2) := by decide +kernel
theorem dX6_protect_203 : decode cX6_protect 203 = .ok (.iinc 5 1, 3) := by decide +kernel
theorem dX6_protect_206 : decode cX6_protect 206 = .ok (.goto (-112), 3) := by decide +kernel
theorem dX6_protect_209 : decode cX6_protect 209 = .ok (.iload 4, 2) := by decide +kernel
theorem dX6_protect_211 : decode cX6_protect 211 = .ok (.ireturn, 1) := by decide +kernel
theorem dX6_repairs_0 : decode cX6_repairs 0 = .ok (.aload_n 0, 1) := by decide +kernel
theorem dX6_repairs_1 : decode cX6_repairs 1 = .ok (.iload_n 2, 1) := by decide +kernel
theorem dX6_repairs_2 : decode cX6_repairs 2 = .ok (.invokevirtual 178, 3) := by decide +kernel
theorem dX6_repairs_5 : decode cX6_repairs 5 = .ok (.ifCond .eq 18, 3) := by decide +kernel
theorem dX6_repairs_8 : decode cX6_repairs 8 = .ok (.aload_n 0, 1) := by decide +kernel
theorem dX6_repairs_9 : decode cX6_repairs 9 = .ok (.getfield 172, 3) := by decide +kernel
theorem dX6_repairs_12 : decode cX6_repairs 12 = .ok (.ifCond .eq 11, 3) := by decide +kernel
theorem dX6_repairs_15 : decode cX6_repairs 15 = .ok (.aload_n 0, 1) := by decide +kernel
theorem dX6_repairs_16 : decode cX6_repairs 16 = .ok (.getfield 172, 3) := by decide +kernel
theorem dX6_repairs_19 : decode cX6_repairs 19 = .ok (.iconst 2, 1) := by decide +kernel
theorem dX6_repairs_20 : decode cX6_repairs 20 = .ok (.if_icmp .le 5, 3) := by decide +kernel
theorem dX6_repairs_23 : decode cX6_repairs 23 = .ok (.iconst 0, 1) := by decide +kernel
theorem dX6_repairs_24 : decode cX6_repairs 24 = .ok (.ireturn, 1) := by decide +kernel
theorem dX6_repairs_25 : decode cX6_repairs 25 = .ok (.aload_n 0, 1) := by decide +kernel
theorem dX6_repairs_26 : decode cX6_repairs 26 = .ok (.iload_n 1, 1) := by decide +kernel
theorem dX6_repairs_27 : decode cX6_repairs 27 = .ok (.iconst 0, 1) := by decide +kernel
theorem dX6_repairs_28 : decode cX6_repairs 28 = .ok (.invokevirtual 181, 3) := by decide +kernel
theorem dX6_repairs_31 : decode cX6_repairs 31 = .ok (.istore_n 3, 1) := by decide +kernel
theorem dX6_repairs_32 : decode cX6_repairs 32 = .ok (.aload_n 0, 1) := by decide +kernel
theorem dX6_repairs_33 : decode cX6_repairs 33 = .ok (.iload_n 1, 1) := by decide +kernel
theorem dX6_repairs_34 : decode cX6_repairs 34 = .ok (.iconst 1, 1) := by decide +kernel
theorem dX6_repairs_35 : decode cX6_repairs 35 = .ok (.invokevirtual 181, 3) := by decide +kernel
theorem dX6_repairs_38 : decode cX6_repairs 38 = .ok (.istore 4, 2) := by decide +kernel
theorem dX6_repairs_40 : decode cX6_repairs 40 = .ok (.iload_n 3, 1) := by decide +kernel
theorem dX6_repairs_41 : decode cX6_repairs 41 = .ok (.iconst (-1), 1) := by decide +kernel
theorem dX6_repairs_42 : decode cX6_repairs 42 = .ok (.if_icmp .eq 14, 3) := by decide +kernel
theorem dX6_repairs_45 : decode cX6_repairs 45 = .ok (.aload_n 0, 1) := by decide +kernel
theorem dX6_repairs_46 : decode cX6_repairs 46 = .ok (.iload_n 2, 1) := by decide +kernel
theorem dX6_repairs_47 : decode cX6_repairs 47 = .ok (.iload_n 3, 1) := by decide +kernel
theorem dX6_repairs_48 : decode cX6_repairs 48 = .ok (.iconst 0, 1) := by decide +kernel
theorem dX6_repairs_49 : decode cX6_repairs 49 = .ok (.aload_n 0, 1) := by decide +kernel
theorem dX6_repairs_50 : decode cX6_repairs 50 = .ok (.getfield 55, 3) := by decide +kernel
theorem dX6_repairs_53 : decode cX6_repairs 53 = .ok (.invokevirtual 184, 3) := by decide +kernel
theorem dX6_repairs_56 : decode cX6_repairs 56 = .ok (.iload 4, 2) := by decide +kernel
theorem dX6_repairs_58 : decode cX6_repairs 58 = .ok (.iconst (-1), 1) := by decide +kernel
theorem dX6_repairs_59 : decode cX6_repairs 59 = .ok (.if_icmp .eq 15, 3) := by decide +kernel
theorem dX6_repairs_62 : decode cX6_repairs 62 = .ok (.aload_n 0, 1) := by decide +kernel
theorem dX6_repairs_63 : decode cX6_repairs 63 = .ok (.iload_n 2, 1) := by decide +kernel
theorem dX6_repairs_64 : decode cX6_repairs 64 = .ok (.iload 4, 2) := by decide +kernel
theorem dX6_repairs_66 : decode cX6_repairs 66 = .ok (.iconst 1, 1) := by decide +kernel
theorem dX6_repairs_67 : decode cX6_repairs 67 = .ok (.aload_n 0, 1) := by decide +kernel
theorem dX6_repairs_68 : decode cX6_repairs 68 = .ok (.getfield 58, 3) := by decide +kernel
theorem dX6_repairs_71 : decode cX6_repairs 71 = .ok (.invokevirtual 184, 3) := by decide +kernel
theorem dX6_repairs_74 : decode cX6_repairs 74 = .ok (.aload_n 0, 1) := by decide +kernel
theorem dX6_repairs_75 : decode cX6_repairs 75 = .ok (.getfield 172, 3) := by decide +kernel
theorem dX6_repairs_78 : decode cX6_repairs 78 = .ok (.iconst 1, 1) := by decide +kernel
theorem dX6_repairs_79 : decode cX6_repairs 79 = .ok (.if_icmp .ne 31, 3) := by decide +kernel
theorem dX6_repairs_82 : decode cX6_repairs 82 = .ok (.aload_n 0, 1) := by decide +kernel
theorem dX6_repairs_83 : decode cX6_repairs 83 = .ok (.iload_n 3, 1) := by decide +kernel
theorem dX6_repairs_84 : decode cX6_repairs 84 = .ok (.iconst (-1), 1) := by decide +kernel
theorem dX6_repairs_85 : decode cX6_repairs 85 = .ok (.if_icmp .eq 7, 3) := by decide +kernel
theorem dX6_repairs_88 : decode cX6_repairs 88 = .ok (.iconst 1, 1) := by decide +kernel
theorem dX6_repairs_89 : decode cX6_repairs 89 = .ok (.goto 4, 3) := by decide +kernel
theorem dX6_repairs_92 : decode cX6_repairs 92 = .ok (.iconst 0, 1) := by decide +kernel
theorem dX6_repairs_93 : decode cX6_repairs 93 = .ok (.iload 4, 2) := by decide +kernel
theorem dX6_repairs_95 : decode cX6_repairs 95 = .ok (.iconst (-1), 1) := by decide +kernel
theorem dX6_repairs_96 : decode cX6_repairs 96 = .ok (.if_icmp .eq 7, 3) := by decide +kernel
theorem dX6_repairs_99 : decode cX6_repairs 99 = .ok (.iconst 1, 1) := by decide +kernel
theorem dX6_repairs_100 : decode cX6_repairs 100 = .ok (.goto 4, 3) := by decide +kernel
theorem dX6_repairs_103 : decode cX6_repairs 103 = .ok (.iconst 0, 1) := by decide +kernel
theorem dX6_repairs_104 : decode cX6_repairs 104 = .ok (.invokevirtual 188, 3) := by decide +kernel
theorem dX6_repairs_107 : decode cX6_repairs 107 = .ok (.goto 23, 3) := by decide +kernel
theorem dX6_repairs_110 : decode cX6_repairs 110 = .ok (.aload_n 0, 1) := by decide +kernel
theorem dX6_repairs_111 : decode cX6_repairs 111 = .ok (.iload_n 3, 1) := by decide +kernel
theorem dX6_repairs_112 : decode cX6_repairs 112 = .ok (.iconst (-1), 1) := by decide +kernel
theorem dX6_repairs_113 : decode cX6_repairs 113 = .ok (.if_icmp .eq 13, 3) := by decide +kernel
theorem dX6_repairs_116 : decode cX6_repairs 116 = .ok (.iload 4, 2) := by decide +kernel
theorem dX6_repairs_118 : decode cX6_repairs 118 = .ok (.iconst (-1), 1) := by decide +kernel
theorem dX6_repairs_119 : decode cX6_repairs 119 = .ok (.if_icmp .eq 7, 3) := by decide +kernel
theorem dX6_repairs_122 : decode cX6_repairs 122 = .ok (.iconst 1, 1) := by decide +kernel
theorem dX6_repairs_123 : decode cX6_repairs 123 = .ok (.goto 4, 3) := by decide +kernel
theorem dX6_repairs_126 : decode cX6_repairs 126 = .ok (.iconst 0, 1) := by decide +kernel
theorem dX6_repairs_127 : decode cX6_repairs 127 = .ok (.invokevirtual 192, 3) := by decide +kernel
theorem dX6_repairs_130 : decode cX6_repairs 130 = .ok (.istore 5, 2) := by decide +kernel
theorem dX6_repairs_132 : decode cX6_repairs 132 = .ok (.iload 5, 2) := by decide +kernel
theorem dX6_repairs_134 : decode cX6_repairs 134 = .ok (.ifCond .eq 39, 3) := by decide +kernel
theorem dX6_repairs_137 : decode cX6_repairs 137 = .ok (.aload_n 0, 1) := by decide +kernel
theorem dX6_repairs_138 : decode cX6_repairs 138 = .ok (.aload_n 0, 1) := by decide +kernel
theorem dX6_repairs_139 : decode cX6_repairs 139 = .ok (.getfield 46, 3) := by decide +kernel
theorem dX6_repairs_142 : decode cX6_repairs 142 = .ok (.iconst 0, 1) := by decide +kernel
theorem dX6_repairs_143 : decode cX6_repairs 143 = .ok (.iaload, 1) := by decide +kernel
theorem dX6_repairs_144 : decode cX6_repairs 144 = .ok (.aload_n 0, 1) := by decide +kernel
theorem dX6_repairs_145 : decode cX6_repairs 145 = .ok (.getfield 61, 3) := by decide +kernel
theorem dX6_repairs_148 : decode cX6_repairs 148 = .ok (.invokevirtual 196, 3) := by decide +kernel
theorem dX6_repairs_151 : decode cX6_repairs 151 = .ok (.aload_n 0, 1) := by decide +kernel
theorem dX6_repairs_152 : decode cX6_repairs 152 = .ok (.getfield 172, 3) := by decide +kernel
theorem dX6_repairs_155 : decode cX6_repairs 155 = .ok (.iconst 2, 1) := by decide +kernel
theorem dX6_repairs_156 : decode cX6_repairs 156 = .ok (.if_icmp .ne 17, 3) := by decide +kernel
theorem dX6_repairs_159 : decode cX6_repairs 159 = .ok (.aload_n 0, 1) := by decide +kernel
theorem dX6_repairs_160 : decode cX6_repairs 160 = .ok (.aload_n 0, 1) := by decide +kernel
theorem dX6_repairs_161 : decode cX6_repairs 161 = .ok (.getfield 46, 3) := by decide +kernel
theorem dX6_repairs_164 : decode cX6_repairs 164 = .ok (.iconst 1, 1) := by decide +kernel
theorem dX6_repairs_165 : decode cX6_repairs 165 = .ok (.iaload, 1) := by decide +kernel
theorem dX6_repairs_166 : decode cX6_repairs 166 = .ok (.aload_n 0, 1) := by decide +kernel
theorem dX6_repairs_167 : decode cX6_repairs 167 = .ok (.getfield 64, 3) := by decide +kernel
theorem dX6_repairs_170 : decode cX6_repairs 170 = .ok (.invokevirtual 196, 3) := by decide +kernel
theorem dX6_repairs_173 : decode cX6_repairs 173 = .ok (.iload 5, 2) := by decide +kernel
theorem dX6_repairs_175 : decode cX6_repairs 175 = .ok (.ireturn, 1) := by decide +kernel
theorem dX6_row_0 : decode cX6_row 0 = .ok (.aload_n 0, 1) := by decide +kernel
theorem dX6_row_1 : decode cX6_row 1 = .ok (.iconst 0, 1) := by decide +kernel
theorem dX6_row_2 : decode cX6_row 2 = .ok (.putfield 70, 3) := by decide +kernel
theorem dX6_row_5 : decode cX6_row 5 = .ok (.aload_n 0, 1) := by decide +kernel
theorem dX6_row_6 : decode cX6_row 6 = .ok (.iload_n 1, 1) := by decide +kernel
theorem dX6_row_7 : decode cX6_row 7 = .ok (.invokevirtual 141, 3) := by decide +kernel
theorem dX6_row_10 : decode cX6_row 10 = .ok (.ifCond .eq 24, 3) := by decide +kernel
theorem dX6_row_13 : decode cX6_row 13 = .ok (.iload_n 2, 1) := by decide +kernel
theorem dX6_row_14 : decode cX6_row 14 = .ok (.iconst 0, 1) := by decide +kernel
theorem dX6_row_15 : decode cX6_row 15 = .ok (.bipush 6, 2) := by decide +kernel
theorem dX6_row_17 : decode cX6_row 17 = .ok (.invokestatic 73, 3) := by decide +kernel
theorem dX6_row_20 : decode cX6_row 20 = .ok (.ifCond .ne 17, 3) := by decide +kernel
theorem dX6_row_23 : decode cX6_row 23 = .ok (.iload_n 2, 1) := by decide +kernel
theorem dX6_row_24 : decode cX6_row 24 = .ok (.bipush 10, 2) := by decide +kernel
theorem dX6_row_26 : decode cX6_row 26 = .ok (.bipush 13, 2) := by decide +kernel
theorem dX6_row_28 : decode cX6_row 28 = .ok (.invokestatic 73, 3) := by decide +kernel
theorem dX6_row_31 : decode cX6_row 31 = .ok (.ifCond .ne 6, 3) := by decide +kernel
theorem dX6_row_34 : decode cX6_row 34 = .ok (.bipush (-2), 2) := by decide +kernel
theorem dX6_row_36 : decode cX6_row 36 = .ok (.ireturn, 1) := by decide +kernel
theorem dX6_row_37 : decode cX6_row 37 = .ok (.aload_n 0, 1) := by decide +kernel
theorem dX6_row_38 : decode cX6_row 38 = .ok (.getfield 17, 3) := by decide +kernel
theorem dX6_row_41 : decode cX6_row 41 = .ok (.ifCond .ne 6, 3) := by decide +kernel
theorem dX6_row_44 : decode cX6_row 44 = .ok (.bipush (-3), 2) := by decide +kernel
theorem dX6_row_46 : decode cX6_row 46 = .ok (.ireturn, 1) := by decide +kernel
theorem dX6_row_47 : decode cX6_row 47 = .ok (.aload_n 0, 1) := by decide +kernel
theorem dX6_row_48 : decode cX6_row 48 = .ok (.iload_n 1, 1) := by decide +kernel
theorem dX6_row_49 : decode cX6_row 49 = .ok (.invokevirtual 144, 3) := by decide +kernel
theorem dX6_row_52 : decode cX6_row 52 = .ok (.istore_n 3, 1) := by decide +kernel
theorem dX6_row_53 : decode cX6_row 53 = .ok (.iload_n 3, 1) := by decide +kernel
theorem dX6_row_54 : decode cX6_row 54 = .ok (.iconst (-1), 1) := by decide +kernel
theorem dX6_row_55 : decode cX6_row 55 = .ok (.if_icmp .ne 5, 3) := by decide +kernel
theorem dX6_row_58 : decode cX6_row 58 = .ok (.iconst (-1), 1) := by decide +kernel
theorem dX6_row_59 : decode cX6_row 59 = .ok (.ireturn, 1) := by decide +kernel
theorem dX6_row_60 : decode cX6_row 60 = .ok (.iload_n 2, 1) := by decide +kernel
theorem dX6_row_61 : decode cX6_row 61 = .ok (.tableswitch 89 0 6 #[43, 55, 61, 63, 70, 77, 83], 43) := by decide +kernel
theorem dX6_row_104 : decode cX6_row 104 = .ok (.aload_n 0, 1) := by decide +kernel
theorem dX6_row_105 : decode cX6_row 105 = .ok (.getfield 7, 3) := by decide +kernel
theorem dX6_row_108 : decode cX6_row 108 = .ok (.bipush 32, 2) := by decide +kernel
theorem dX6_row_110 : decode cX6_row 110 = .ok (.iload_n 3, 1) := by decide +kernel
theorem dX6_row_111 : decode cX6_row 111 = .ok (.imul, 1) := by decide +kernel
theorem dX6_row_112 : decode cX6_row 112 = .ok (.iconst 1, 1) := by decide +kernel
theorem dX6_row_113 : decode cX6_row 113 = .ok (.iadd, 1) := by decide +kernel
theorem dX6_row_114 : decode cX6_row 114 = .ok (.iaload, 1) := by decide +kernel
theorem dX6_row_115 : decode cX6_row 115 = .ok (.ireturn, 1) := by decide +kernel
theorem dX6_row_116 : decode cX6_row 116 = .ok (.aload_n 0, 1) := by decide +kernel
theorem dX6_row_117 : decode cX6_row 117 = .ok (.iload_n 3, 1) := by decide +kernel
theorem dX6_row_118 : decode cX6_row 118 = .ok (.invokevirtual 103, 3) := by decide +kernel
theorem dX6_row_121 : decode cX6_row 121 = .ok (.ireturn, 1) := by decide +kernel
theorem dX6_row_122 : decode cX6_row 122 = .ok (.iload_n 3, 1) := by decide +kernel
theorem dX6_row_123 : decode cX6_row 123 = .ok (.ireturn, 1) := by decide +kernel
theorem dX6_row_124 : decode cX6_row 124 = .ok (.aload_n 0, 1) := by decide +kernel
theorem dX6_row_125 : decode cX6_row 125 = .ok (.iload_n 1, 1) := by decide +kernel
theorem dX6_row_126 : decode cX6_row 126 = .ok (.iconst 0, 1) := by decide +kernel
theorem dX6_row_127 : decode cX6_row 127 = .ok (.invokevirtual 181, 3) := by decide +kernel
theorem dX6_row_130 : decode cX6_row 130 = .ok (.ireturn, 1) := by decide +kernel
theorem dX6_row_131 : decode cX6_row 131 = .ok (.aload_n 0, 1) := by decide +kernel
theorem dX6_row_132 : decode cX6_row 132 = .ok (.iload_n 1, 1) := by decide +kernel
theorem dX6_row_133 : decode cX6_row 133 = .ok (.iconst 1, 1) := by decide +kernel
theorem dX6_row_134 : decode cX6_row 134 = .ok (.invokevirtual 181, 3) := by decide +kernel
theorem dX6_row_137 : decode cX6_row 137 = .ok (.ireturn, 1) := by decide +kernel
theorem dX6_row_138 : decode cX6_row 138 = .ok (.aload_n 0, 1) := by decide +kernel
theorem dX6_row_139 : decode cX6_row 139 = .ok (.iload_n 3, 1) := by decide +kernel
theorem dX6_row_140 : decode cX6_row 140 = .ok (.invokevirtual 106, 3) := by decide +kernel
theorem dX6_row_143 : decode cX6_row 143 = .ok (.ireturn, 1) := by decide +kernel
theorem dX6_row_144 : decode cX6_row 144 = .ok (.aload_n 0, 1) := by decide +kernel
theorem dX6_row_145 : decode cX6_row 145 = .ok (.iload_n 3, 1) := by decide +kernel
theorem dX6_row_146 : decode cX6_row 146 = .ok (.invokevirtual 147, 3) := by decide +kernel
theorem dX6_row_149 : decode cX6_row 149 = .ok (.ireturn, 1) := by decide +kernel
theorem dX6_row_150 : decode cX6_row 150 = .ok (.iload_n 2, 1) := by decide +kernel
theorem dX6_row_151 : decode cX6_row 151 = .ok (.bipush 10, 2) := by decide +kernel
theorem dX6_row_153 : decode cX6_row 153 = .ok (.isub, 1) := by decide +kernel
theorem dX6_row_154 : decode cX6_row 154 = .ok (.aload_n 0, 1) := by decide +kernel
theorem dX6_row_155 : decode cX6_row 155 = .ok (.iload_n 3, 1) := by decide +kernel
theorem dX6_row_156 : decode cX6_row 156 = .ok (.invokevirtual 106, 3) := by decide +kernel
theorem dX6_row_159 : decode cX6_row 159 = .ok (.if_icmp .ge 15, 3) := by decide +kernel
theorem dX6_row_162 : decode cX6_row 162 = .ok (.aload_n 0, 1) := by decide +kernel
theorem dX6_row_163 : decode cX6_row 163 = .ok (.iload_n 3, 1) := by decide +kernel
theorem dX6_row_164 : decode cX6_row 164 = .ok (.iload_n 2, 1) := by decide +kernel
theorem dX6_row_165 : decode cX6_row 165 = .ok (.bipush 10, 2) := by decide +kernel
theorem dX6_row_167 : decode cX6_row 167 = .ok (.isub, 1) := by decide +kernel
theorem dX6_row_168 : decode cX6_row 168 = .ok (.invokevirtual 109, 3) := by decide +kernel
theorem dX6_row_171 : decode cX6_row 171 = .ok (.goto 4, 3) := by decide +kernel
theorem dX6_row_174 : decode cX6_row 174 = .ok (.iconst (-1), 1) := by decide +kernel
theorem dX6_row_175 : decode cX6_row 175 = .ok (.ireturn, 1) := by decide +kernel
theorem dX6_end_0 : decode cX6_end 0 = .ok (.aload_n 0, 1) := by decide +kernel
theorem dX6_end_1 : decode cX6_end 1 = .ok (.iconst 0, 1) := by decide +kernel
theorem dX6_end_2 : decode cX6_end 2 = .ok (.putfield 70, 3) := by decide +kernel
theorem dX6_end_5 : decode cX6_end 5 = .ok (.aload_n 0, 1) := by decide +kernel
theorem dX6_end_6 : decode cX6_end 6 = .ok (.getfield 17, 3) := by decide +kernel
theorem dX6_end_9 : decode cX6_end 9 = .ok (.ifCond .eq 11, 3) := by decide +kernel
theorem dX6_end_12 : decode cX6_end 12 = .ok (.aload_n 0, 1) := by decide +kernel
theorem dX6_end_13 : decode cX6_end 13 = .ok (.getfield 25, 3) := by decide +kernel
theorem dX6_end_16 : decode cX6_end 16 = .ok (.iconst (-1), 1) := by decide +kernel
theorem dX6_end_17 : decode cX6_end 17 = .ok (.if_icmp .ne 6, 3) := by decide +kernel
theorem dX6_end_20 : decode cX6_end 20 = .ok (.bipush (-3), 2) := by decide +kernel
theorem dX6_end_22 : decode cX6_end 22 = .ok (.ireturn, 1) := by decide +kernel
theorem dX6_end_23 : decode cX6_end 23 = .ok (.aload_n 0, 1) := by decide +kernel
theorem dX6_end_24 : decode cX6_end 24 = .ok (.getfield 116, 3) := by decide +kernel
theorem dX6_end_27 : decode cX6_end 27 = .ok (.bipush 24, 2) := by decide +kernel
theorem dX6_end_29 : decode cX6_end 29 = .ok (.iadd, 1) := by decide +kernel
theorem dX6_end_30 : decode cX6_end 30 = .ok (.iconst 1, 1) := by decide +kernel
theorem dX6_end_31 : decode cX6_end 31 = .ok (.isub, 1) := by decide +kernel
theorem dX6_end_32 : decode cX6_end 32 = .ok (.bipush 24, 2) := by decide +kernel
theorem dX6_end_34 : decode cX6_end 34 = .ok (.idiv, 1) := by decide +kernel
theorem dX6_end_35 : decode cX6_end 35 = .ok (.istore_n 1, 1) := by decide +kernel
theorem dX6_end_36 : decode cX6_end 36 = .ok (.iconst 0, 1) := by decide +kernel
theorem dX6_end_37 : decode cX6_end 37 = .ok (.istore_n 2, 1) := by decide +kernel
theorem dX6_end_38 : decode cX6_end 38 = .ok (.iload_n 2, 1) := by decide +kernel
theorem dX6_end_39 : decode cX6_end 39 = .ok (.iload_n 1, 1) := by decide +kernel
theorem dX6_end_40 : decode cX6_end 40 = .ok (.if_icmp .ge 23, 3) := by decide +kernel
theorem dX6_end_43 : decode cX6_end 43 = .ok (.aload_n 0, 1) := by decide +kernel
theorem dX6_end_44 : decode cX6_end 44 = .ok (.getfield 43, 3) := by decide +kernel
theorem dX6_end_47 : decode cX6_end 47 = .ok (.iload_n 2, 1) := by decide +kernel
theorem dX6_end_48 : decode cX6_end 48 = .ok (.aload_n 0, 1) := by decide +kernel
theorem dX6_end_49 : decode cX6_end 49 = .ok (.bipush 24, 2) := by decide +kernel
theorem dX6_end_51 : decode cX6_end 51 = .ok (.iload_n 2, 1) := by decide +kernel
theorem dX6_end_52 : decode cX6_end 52 = .ok (.imul, 1) := by decide +kernel
theorem dX6_end_53 : decode cX6_end 53 = .ok (.invokevirtual 132, 3) := by decide +kernel
theorem dX6_end_56 : decode cX6_end 56 = .ok (.iastore, 1) := by decide +kernel
theorem dX6_end_57 : decode cX6_end 57 = .ok (.iinc 2 1, 3) := by decide +kernel
theorem dX6_end_60 : decode cX6_end 60 = .ok (.goto (-22), 3) := by decide +kernel
theorem dX6_end_63 : decode cX6_end 63 = .ok (.aload_n 0, 1) := by decide +kernel
theorem dX6_end_64 : decode cX6_end 64 = .ok (.iconst 3, 1) := by decide +kernel
theorem dX6_end_65 : decode cX6_end 65 = .ok (.aload_n 0, 1) := by decide +kernel
theorem dX6_end_66 : decode cX6_end 66 = .ok (.getfield 25, 3) := by decide +kernel
theorem dX6_end_69 : decode cX6_end 69 = .ok (.aload_n 0, 1) := by decide +kernel
theorem dX6_end_70 : decode cX6_end 70 = .ok (.getfield 100, 3) := by decide +kernel
theorem dX6_end_73 : decode cX6_end 73 = .ok (.aload_n 0, 1) := by decide +kernel
theorem dX6_end_74 : decode cX6_end 74 = .ok (.getfield 116, 3) := by decide +kernel
theorem dX6_end_77 : decode cX6_end 77 = .ok (.invokevirtual 121, 3) := by decide +kernel
theorem dX6_end_80 : decode cX6_end 80 = .ok (.iconst 0, 1) := by decide +kernel
theorem dX6_end_81 : decode cX6_end 81 = .ok (.istore_n 2, 1) := by decide +kernel
theorem dX6_end_82 : decode cX6_end 82 = .ok (.iload_n 2, 1) := by decide +kernel
theorem dX6_end_83 : decode cX6_end 83 = .ok (.iload_n 1, 1) := by decide +kernel
theorem dX6_end_84 : decode cX6_end 84 = .ok (.if_icmp .ge 23, 3) := by decide +kernel
theorem dX6_end_87 : decode cX6_end 87 = .ok (.aload_n 0, 1) := by decide +kernel
theorem dX6_end_88 : decode cX6_end 88 = .ok (.getfield 40, 3) := by decide +kernel
theorem dX6_end_91 : decode cX6_end 91 = .ok (.iconst 4, 1) := by decide +kernel
theorem dX6_end_92 : decode cX6_end 92 = .ok (.iload_n 2, 1) := by decide +kernel
theorem dX6_end_93 : decode cX6_end 93 = .ok (.iadd, 1) := by decide +kernel
theorem dX6_end_94 : decode cX6_end 94 = .ok (.aload_n 0, 1) := by decide +kernel
theorem dX6_end_95 : decode cX6_end 95 = .ok (.getfield 43, 3) := by decide +kernel
theorem dX6_end_98 : decode cX6_end 98 = .ok (.iload_n 2, 1) := by decide +kernel
theorem dX6_end_99 : decode cX6_end 99 = .ok (.iaload, 1) := by decide +kernel
theorem dX6_end_100 : decode cX6_end 100 = .ok (.iastore, 1) := by decide +kernel
theorem dX6_end_101 : decode cX6_end 101 = .ok (.iinc 2 1, 3) := by decide +kernel
theorem dX6_end_104 : decode cX6_end 104 = .ok (.goto (-22), 3) := by decide +kernel
theorem dX6_end_107 : decode cX6_end 107 = .ok (.aload_n 0, 1) := by decide +kernel
theorem dX6_end_108 : decode cX6_end 108 = .ok (.invokevirtual 128, 3) := by decide +kernel
theorem dX6_end_111 : decode cX6_end 111 = .ok (.istore_n 2, 1) := by decide +kernel
theorem dX6_end_112 : decode cX6_end 112 = .ok (.aload_n 0, 1) := by decide +kernel
theorem dX6_end_113 : decode cX6_end 113 = .ok (.iconst (-1), 1) := by decide +kernel
theorem dX6_end_114 : decode cX6_end 114 = .ok (.putfield 25, 3) := by decide +kernel
theorem dX6_end_117 : decode cX6_end 117 = .ok (.aload_n 0, 1) := by decide +kernel
theorem dX6_end_118 : decode cX6_end 118 = .ok (.dup, 1) := by decide +kernel
theorem dX6_end_119 : decode cX6_end 119 = .ok (.getfield 100, 3) := by decide +kernel
theorem dX6_end_122 : decode cX6_end 122 = .ok (.iconst 1, 1) := by decide +kernel
theorem dX6_end_123 : decode cX6_end 123 = .ok (.iadd, 1) := by decide +kernel
theorem dX6_end_124 : decode cX6_end 124 = .ok (.putfield 100, 3) := by decide +kernel
theorem dX6_end_127 : decode cX6_end 127 = .ok (.aload_n 0, 1) := by decide +kernel
theorem dX6_end_128 : decode cX6_end 128 = .ok (.getfield 100, 3) := by decide +kernel
theorem dX6_end_131 : decode cX6_end 131 = .ok (.iconst 1, 1) := by decide +kernel
theorem dX6_end_132 : decode cX6_end 132 = .ok (.isub, 1) := by decide +kernel
theorem dX6_end_133 : decode cX6_end 133 = .ok (.ireturn, 1) := by decide +kernel
theorem dX6_start_0 : decode cX6_start 0 = .ok (.aload_n 0, 1) := by decide +kernel
theorem dX6_start_1 : decode cX6_start 1 = .ok (.iconst 0, 1) := by decide +kernel
theorem dX6_start_2 : decode cX6_start 2 = .ok (.putfield 70, 3) := by decide +kernel
theorem dX6_start_5 : decode cX6_start 5 = .ok (.aload_n 0, 1) := by decide +kernel
theorem dX6_start_6 : decode cX6_start 6 = .ok (.getfield 17, 3) := by decide +kernel
theorem dX6_start_9 : decode cX6_start 9 = .ok (.ifCond .eq 6, 3) := by decide +kernel
theorem dX6_start_12 : decode cX6_start 12 = .ok (.bipush (-3), 2) := by decide +kernel
theorem dX6_start_14 : decode cX6_start 14 = .ok (.ireturn, 1) := by decide +kernel
theorem dX6_start_15 : decode cX6_start 15 = .ok (.aload_n 0, 1) := by decide +kernel
theorem dX6_start_16 : decode cX6_start 16 = .ok (.iconst 0, 1) := by decide +kernel
theorem dX6_start_17 : decode cX6_start 17 = .ok (.invokevirtual 159, 3) := by decide +kernel
theorem dX6_start_20 : decode cX6_start 20 = .ok (.istore_n 1, 1) := by decide +kernel
theorem dX6_start_21 : decode cX6_start 21 = .ok (.aload_n 0, 1) := by decide +kernel
theorem dX6_start_22 : decode cX6_start 22 = .ok (.iconst 1, 1) := by decide +kernel
theorem dX6_start_23 : decode cX6_start 23 = .ok (.invokevirtual 159, 3) := by decide +kernel
theorem dX6_start_26 : decode cX6_start 26 = .ok (.istore_n 2, 1) := by decide +kernel
theorem dX6_start_27 : decode cX6_start 27 = .ok (.iload_n 2, 1) := by decide +kernel
theorem dX6_start_28 : decode cX6_start 28 = .ok (.ifCond .eq 24, 3) := by decide +kernel
theorem dX6_start_31 : decode cX6_start 31 = .ok (.iload_n 1, 1) := by decide +kernel
theorem dX6_start_32 : decode cX6_start 32 = .ok (.ifCond .eq 16, 3) := by decide +kernel
theorem dX6_start_35 : decode cX6_start 35 = .ok (.aload_n 0, 1) := by decide +kernel
theorem dX6_start_36 : decode cX6_start 36 = .ok (.iconst 1, 1) := by decide +kernel
theorem dX6_start_37 : decode cX6_start 37 = .ok (.invokevirtual 162, 3) := by decide +kernel
theorem dX6_start_40 : decode cX6_start 40 = .ok (.aload_n 0, 1) := by decide +kernel
theorem dX6_start_41 : decode cX6_start 41 = .ok (.iconst 0, 1) := by decide +kernel
theorem dX6_start_42 : decode cX6_start 42 = .ok (.invokevirtual 162, 3) := by decide +kernel
theorem dX6_start_45 : decode cX6_start 45 = .ok (.if_icmp .le 7, 3) := by decide +kernel
theorem dX6_start_48 : decode cX6_start 48 = .ok (.iconst 1, 1) := by decide +kernel
theorem dX6_start_49 : decode cX6_start 49 = .ok (.goto 12, 3) := by decide +kernel
theorem dX6_start_52 : decode cX6_start 52 = .ok (.iload_n 1, 1) := by decide +kernel
theorem dX6_start_53 : decode cX6_start 53 = .ok (.ifCond .eq 7, 3) := by decide +kernel
theorem dX6_start_56 : decode cX6_start 56 = .ok (.iconst 0, 1) := by decide +kernel
theorem dX6_start_57 : decode cX6_start 57 = .ok (.goto 4, 3) := by decide +kernel
theorem dX6_start_60 : decode cX6_start 60 = .ok (.iconst (-1), 1) := by decide +kernel
theorem dX6_start_61 : decode cX6_start 61 = .ok (.istore_n 3, 1) := by decide +kernel
theorem dX6_start_62 : decode cX6_start 62 = .ok (.aload_n 0, 1) := by decide +kernel
theorem dX6_start_63 : decode cX6_start 63 = .ok (.iload_n 3, 1) := by decide +kernel
theorem dX6_start_64 : decode cX6_start 64 = .ok (.iconst (-1), 1) := by decide +kernel
theorem dX6_start_65 : decode cX6_start 65 = .ok (.if_icmp .ne 7, 3) := by decide +kernel
theorem dX6_start_68 : decode cX6_start 68 = .ok (.iconst 0, 1) := by decide +kernel
theorem dX6_start_69 : decode cX6_start 69 = .ok (.goto 8, 3) := by decide +kernel
theorem dX6_start_72 : decode cX6_start 72 = .ok (.aload_n 0, 1) := by decide +kernel
theorem dX6_start_73 : decode cX6_start 73 = .ok (.iload_n 3, 1) := by decide +kernel
theorem dX6_start_74 : decode cX6_start 74 = .ok (.invokevirtual 162, 3) := by decide +kernel
theorem dX6_start_77 : decode cX6_start 77 = .ok (.putfield 153, 3) := by decide +kernel
theorem dX6_start_80 : decode cX6_start 80 = .ok (.aload_n 0, 1) := by decide +kernel
theorem dX6_start_81 : decode cX6_start 81 = .ok (.iload_n 3, 1) := by decide +kernel
theorem dX6_start_82 : decode cX6_start 82 = .ok (.iconst (-1), 1) := by decide +kernel
theorem dX6_start_83 : decode cX6_start 83 = .ok (.if_icmp .ne 7, 3) := by decide +kernel
theorem dX6_start_86 : decode cX6_start 86 = .ok (.iconst 2, 1) := by decide +kernel
theorem dX6_start_87 : decode cX6_start 87 = .ok (.goto 15, 3) := by decide +kernel
theorem dX6_start_90 : decode cX6_start 90 = .ok (.aload_n 0, 1) := by decide +kernel
theorem dX6_start_91 : decode cX6_start 91 = .ok (.getfield 7, 3) := by decide +kernel
theorem dX6_start_94 : decode cX6_start 94 = .ok (.bipush 32, 2) := by decide +kernel
theorem dX6_start_96 : decode cX6_start 96 = .ok (.iload_n 3, 1) := by decide +kernel
theorem dX6_start_97 : decode cX6_start 97 = .ok (.imul, 1) := by decide +kernel
theorem dX6_start_98 : decode cX6_start 98 = .ok (.bipush 8, 2) := by decide +kernel
theorem dX6_start_100 : decode cX6_start 100 = .ok (.iadd, 1) := by decide +kernel
theorem dX6_start_101 : decode cX6_start 101 = .ok (.iaload, 1) := by decide +kernel
theorem dX6_start_102 : decode cX6_start 102 = .ok (.putfield 21, 3) := by decide +kernel
theorem dX6_start_105 : decode cX6_start 105 = .ok (.aload_n 0, 1) := by decide +kernel
theorem dX6_start_106 : decode cX6_start 106 = .ok (.iload_n 3, 1) := by decide +kernel
theorem dX6_start_107 : decode cX6_start 107 = .ok (.iconst (-1), 1) := by decide +kernel
theorem dX6_start_108 : decode cX6_start 108 = .ok (.if_icmp .ne 7, 3) := by decide +kernel
theorem dX6_start_111 : decode cX6_start 111 = .ok (.iconst 0, 1) := by decide +kernel
theorem dX6_start_112 : decode cX6_start 112 = .ok (.goto 15, 3) := by decide +kernel
theorem dX6_start_115 : decode cX6_start 115 = .ok (.aload_n 0, 1) := by decide +kernel
theorem dX6_start_116 : decode cX6_start 116 = .ok (.getfield 7, 3) := by decide +kernel
theorem dX6_start_119 : decode cX6_start 119 = .ok (.bipush 32, 2) := by decide +kernel
theorem dX6_start_121 : decode cX6_start 121 = .ok (.iload_n 3, 1) := by decide +kernel
theorem dX6_start_122 : decode cX6_start 122 = .ok (.imul, 1) := by decide +kernel
theorem dX6_start_123 : decode cX6_start 123 = .ok (.bipush 9, 2) := by decide +kernel
theorem dX6_start_125 : decode cX6_start 125 = .ok (.iadd, 1) := by decide +kernel
theorem dX6_start_126 : decode cX6_start 126 = .ok (.iaload, 1) := by decide +kernel
theorem dX6_start_127 : decode cX6_start 127 = .ok (.putfield 100, 3) := by decide +kernel
theorem dX6_start_130 : decode cX6_start 130 = .ok (.aload_n 0, 1) := by decide +kernel
theorem dX6_start_131 : decode cX6_start 131 = .ok (.getfield 21, 3) := by decide +kernel
theorem dX6_start_134 : decode cX6_start 134 = .ok (.aload_n 0, 1) := by decide +kernel
theorem dX6_start_135 : decode cX6_start 135 = .ok (.getfield 67, 3) := by decide +kernel
theorem dX6_start_138 : decode cX6_start 138 = .ok (.if_icmp .ge 28, 3) := by decide +kernel
theorem dX6_start_141 : decode cX6_start 141 = .ok (.aload_n 0, 1) := by decide +kernel
theorem dX6_start_142 : decode cX6_start 142 = .ok (.aload_n 0, 1) := by decide +kernel
theorem dX6_start_143 : decode cX6_start 143 = .ok (.getfield 21, 3) := by decide +kernel
theorem dX6_start_146 : decode cX6_start 146 = .ok (.invokevirtual 86, 3) := by decide +kernel
theorem dX6_start_149 : decode cX6_start 149 = .ok (.iconst 2, 1) := by decide +kernel
theorem dX6_start_150 : decode cX6_start 150 = .ok (.if_icmp .lt 16, 3) := by decide +kernel
theorem dX6_start_153 : decode cX6_start 153 = .ok (.aload_n 0, 1) := by decide +kernel
theorem dX6_start_154 : decode cX6_start 154 = .ok (.dup, 1) := by decide +kernel
theorem dX6_start_155 : decode cX6_start 155 = .ok (.getfield 21, 3) := by decide +kernel
theorem dX6_start_158 : decode cX6_start 158 = .ok (.iconst 1, 1) := by decide +kernel
theorem dX6_start_159 : decode cX6_start 159 = .ok (.iadd, 1) := by decide +kernel
theorem dX6_start_160 : decode cX6_start 160 = .ok (.putfield 21, 3) := by decide +kernel
theorem dX6_start_163 : decode cX6_start 163 = .ok (.goto (-33), 3) := by decide +kernel
theorem dX6_start_166 : decode cX6_start 166 = .ok (.aload_n 0, 1) := by decide +kernel
theorem dX6_start_167 : decode cX6_start 167 = .ok (.getfield 100, 3) := by decide +kernel
theorem dX6_start_170 : decode cX6_start 170 = .ok (.istore 4, 2) := by decide +kernel
theorem dX6_start_172 : decode cX6_start 172 = .ok (.iload 4, 2) := by decide +kernel
theorem dX6_start_174 : decode cX6_start 174 = .ok (.bipush 60, 2) := by decide +kernel
theorem dX6_start_176 : decode cX6_start 176 = .ok (.if_icmp .ge 34, 3) := by decide +kernel
theorem dX6_start_179 : decode cX6_start 179 = .ok (.aload_n 0, 1) := by decide +kernel
theorem dX6_start_180 : decode cX6_start 180 = .ok (.aload_n 0, 1) := by decide +kernel
theorem dX6_start_181 : decode cX6_start 181 = .ok (.iload 4, 2) := by decide +kernel
theorem dX6_start_183 : decode cX6_start 183 = .ok (.invokevirtual 144, 3) := by decide +kernel
theorem dX6_start_186 : decode cX6_start 186 = .ok (.iconst (-1), 1) := by decide +kernel
theorem dX6_start_187 : decode cX6_start 187 = .ok (.if_icmp .eq 10, 3) := by decide +kernel
theorem dX6_start_190 : decode cX6_start 190 = .ok (.iload 4, 2) := by decide +kernel
theorem dX6_start_192 : decode cX6_start 192 = .ok (.iconst 1, 1) := by decide +kernel
theorem dX6_start_193 : decode cX6_start 193 = .ok (.iadd, 1) := by decide +kernel
theorem dX6_start_194 : decode cX6_start 194 = .ok (.goto 7, 3) := by decide +kernel
theorem dX6_start_197 : decode cX6_start 197 = .ok (.aload_n 0, 1) := by decide +kernel
theorem dX6_start_198 : decode cX6_start 198 = .ok (.getfield 100, 3) := by decide +kernel
theorem dX6_start_201 : decode cX6_start 201 = .ok (.putfield 100, 3) := by decide +kernel
theorem dX6_start_204 : decode cX6_start 204 = .ok (.iinc 4 1, 3) := by decide +kernel
theorem dX6_start_207 : decode cX6_start 207 = .ok (.goto (-35), 3) := by decide +kernel
theorem dX6_start_210 : decode cX6_start 210 = .ok (.aload_n 0, 1) := by decide +kernel
theorem dX6_start_211 : decode cX6_start 211 = .ok (.iconst 1, 1) := by decide +kernel
theorem dX6_start_212 : decode cX6_start 212 = .ok (.putfield 17, 3) := by decide +kernel
theorem dX6_start_215 : decode cX6_start 215 = .ok (.aload_n 0, 1) := by decide +kernel
theorem dX6_start_216 : decode cX6_start 216 = .ok (.iconst 0, 1) := by decide +kernel
theorem dX6_start_217 : decode cX6_start 217 = .ok (.putfield 165, 3) := by decide +kernel
theorem dX6_start_220 : decode cX6_start 220 = .ok (.iconst 1, 1) := by decide +kernel
theorem dX6_start_221 : decode cX6_start 221 = .ok (.istore 4, 2) := by decide +kernel
theorem dX6_start_223 : decode cX6_start 223 = .ok (.iload 4, 2) := by decide +kernel
theorem dX6_start_225 : decode cX6_start 225 = .ok (.ifCond .eq 64, 3) := by decide +kernel
theorem dX6_start_228 : decode cX6_start 228 = .ok (.iconst 0, 1) := by decide +kernel
theorem dX6_start_229 : decode cX6_start 229 = .ok (.istore 4, 2) := by decide +kernel
theorem dX6_start_231 : decode cX6_start 231 = .ok (.iconst 0, 1) := by decide +kernel
theorem dX6_start_232 : decode cX6_start 232 = .ok (.istore 5, 2) := by decide +kernel
theorem dX6_start_234 : decode cX6_start 234 = .ok (.iload 5, 2) := by decide +kernel
theorem dX6_start_236 : decode cX6_start 236 = .ok (.aload_n 0, 1) := by decide +kernel
theorem dX6_start_237 : decode cX6_start 237 = .ok (.getfield 100, 3) := by decide +kernel
theorem dX6_start_240 : decode cX6_start 240 = .ok (.if_icmp .ge 46, 3) := by decide +kernel
theorem dX6_start_243 : decode cX6_start 243 = .ok (.aload_n 0, 1) := by decide +kernel
theorem dX6_start_244 : decode cX6_start 244 = .ok (.iload 5, 2) := by decide +kernel
theorem dX6_start_246 : decode cX6_start 246 = .ok (.invokevirtual 144, 3) := by decide +kernel
theorem dX6_start_249 : decode cX6_start 249 = .ok (.istore 6, 2) := by decide +kernel
theorem dX6_start_251 : decode cX6_start 251 = .ok (.iload 6, 2) := by decide +kernel
theorem dX6_start_253 : decode cX6_start 253 = .ok (.iconst (-1), 1) := by decide +kernel
theorem dX6_start_254 : decode cX6_start 254 = .ok (.if_icmp .eq 14, 3) := by decide +kernel
theorem dX6_start_257 : decode cX6_start 257 = .ok (.aload_n 0, 1) := by decide +kernel
theorem dX6_start_258 : decode cX6_start 258 = .ok (.iload 5, 2) := by decide +kernel
theorem dX6_start_260 : decode cX6_start 260 = .ok (.iload 6, 2) := by decide +kernel
theorem dX6_start_262 : decode cX6_start 262 = .ok (.invokevirtual 168, 3) := by decide +kernel
theorem dX6_start_265 : decode cX6_start 265 = .ok (.ifCond .ne 8, 3) := by decide +kernel
theorem dX6_start_268 : decode cX6_start 268 = .ok (.iload 4, 2) := by decide +kernel
theorem dX6_start_270 : decode cX6_start 270 = .ok (.ifCond .eq 7, 3) := by decide +kernel
theorem dX6_start_273 : decode cX6_start 273 = .ok (.iconst 1, 1) := by decide +kernel
theorem dX6_start_274 : decode cX6_start 274 = .ok (.goto 4, 3) := by decide +kernel
theorem dX6_start_277 : decode cX6_start 277 = .ok (.iconst 0, 1) := by decide +kernel
theorem dX6_start_278 : decode cX6_start 278 = .ok (.istore 4, 2) := by decide +kernel
theorem dX6_start_280 : decode cX6_start 280 = .ok (.iinc 5 1, 3) := by decide +kernel
theorem dX6_start_283 : decode cX6_start 283 = .ok (.goto (-49), 3) := by decide +kernel
theorem dX6_start_286 : decode cX6_start 286 = .ok (.goto (-63), 3) := by decide +kernel
theorem dX6_start_289 : decode cX6_start 289 = .ok (.aload_n 0, 1) := by decide +kernel
theorem dX6_start_290 : decode cX6_start 290 = .ok (.iconst 0, 1) := by decide +kernel
theorem dX6_start_291 : decode cX6_start 291 = .ok (.putfield 93, 3) := by decide +kernel
theorem dX6_start_294 : decode cX6_start 294 = .ok (.aload_n 0, 1) := by decide +kernel
theorem dX6_start_295 : decode cX6_start 295 = .ok (.getfield 100, 3) := by decide +kernel
theorem dX6_start_298 : decode cX6_start 298 = .ok (.ireturn, 1) := by decide +kernel
end
section
/-! the table of methods, by program out of the claim's papers -/
def tb_GT : List Jvm.Cond := lw_tbl.filter goodWord
theorem tb_mem (i : Nat) {w : Jvm.Cond} (h : lw_tbl[i]? = some w) (g : goodWord w = true) : w ∈ tb_GT := List.mem_filter.mpr ⟨List.mem_of_getElem? h, g⟩
theorem tb_good : mx_good tb_GT := fun _ hw => good_of_word (List.mem_filter.mp hw).2
def tb_cl : List vw_C := [(RX0, TX0, 1), (RX2, TX2, 6), (RX3, TX3, 4), (RX4, TX4, 4), (RX5, TX5, 14), (RX6, TX6, 27)]
def tb_ty (ci k : Nat) : FieldType := match ci with
  | 0 => tyX0 k
  | 1 => tyX2 k
  | 2 => tyX3 k
  | 3 => tyX4 k
  | 4 => tyX5 k
  | _ => tyX6 k
def tb_NW : List Jvm.Cond := [Jvm.Cond.methodLinkNest RX5 20 yX3_init RX5, Jvm.Cond.methodLinkNest RX5 27 yX0_init RX5, Jvm.Cond.methodLinkNest RX5 34 yX2_init RX5, Jvm.Cond.methodLinkNest RX0 21 yX5_sumOf RX5, Jvm.Cond.methodLinkNest RX4 61 yX5_sumOf RX5]
theorem tb_nest : mx_nest tb_NW := by
  intro z hz
  simp only [tb_NW, List.mem_cons, List.not_mem_nil, or_false] at hz
  rcases hz with rfl | rfl | rfl | rfl | rfl <;> exact ⟨_, _, _, _, rfl⟩
def tm_J7_fill_53178 : mx_M := (yJ7_fill_53178, RJ7, cJ7_fill_53178, 4, none, 1, 2, (1, 99), [], [], [], [], [])
def tm_X0_cell : mx_M := (yX0_cell, RX0, cX0_cell, 2, (some .int), 1, 1, (0, 0), [(9, 0, 0)], [], [], [], [])
def tm_X0_init : mx_M := (yX0_init, RX0, cX0_init, 1, none, 1, 0, (2, 0), [(9, 0, 0)], [(3, 0)], [], [], [])
def tm_X0_setContent : mx_M := (yX0_setContent, RX0, cX0_setContent, 3, none, 1, 2, (0, 0), [(9, 0, 0)], [], [], [], [])
def tm_X1_twice : mx_M := (yX1_twice, RX1, cX1_twice, 2, (some .int), 1, 1, (1, 99), [], [], [], [], [])
def tm_X2_filling : mx_M := (yX2_filling, RX2, cX2_filling, 4, (some .int), 1, 2, (0, 1), [(21, 1, 3)], [], [], [], [])
def tm_X2_init : mx_M := (yX2_init, RX2, cX2_init, 1, none, 1, 0, (2, 1), [(9, 1, 0), (15, 1, 1), (18, 1, 2), (21, 1, 3)], [(3, 0)], [], [], [])
def tm_X2_note : mx_M := (yX2_note, RX2, cX2_note, 4, none, 1, 2, (0, 1), [(24, 1, 4), (9, 1, 0), (15, 1, 1), (18, 1, 2)], [], [], [], [])
def tm_X2_sectorOf : mx_M := (yX2_sectorOf, RX2, cX2_sectorOf, 2, (some .int), 1, 1, (0, 1), [(24, 1, 4), (9, 1, 0)], [], [], [], [])
def tm_X2_size : mx_M := (yX2_size, RX2, cX2_size, 1, (some .int), 1, 0, (0, 1), [(24, 1, 4)], [], [], [], [])
def tm_X3_clear : mx_M := (yX3_clear, RX3, cX3_clear, 1, none, 1, 0, (0, 2), [(22, 2, 3)], [], [], [], [])
def tm_X3_init : mx_M := (yX3_init, RX3, cX3_init, 1, none, 1, 0, (2, 2), [(9, 2, 0), (15, 2, 1), (18, 2, 2)], [(3, 0)], [], [], [])
def tm_X3_size : mx_M := (yX3_size, RX3, cX3_size, 1, (some .int), 1, 0, (0, 2), [(22, 2, 3)], [], [], [], [])
def tm_X4_cell : mx_M := (yX4_cell, RX4, cX4_cell, 4, (some .int), 1, 2, (0, 3), [(18, 3, 0), (24, 3, 1)], [], [], [], [])
def tm_X4_count : mx_M := (yX4_count, RX4, cX4_count, 1, (some .int), 1, 0, (0, 3), [(18, 3, 0)], [], [], [], [])
def tm_X4_countLost : mx_M := (yX4_countLost, RX4, cX4_countLost, 3, (some .int), 1, 0, (0, 3), [(18, 3, 0), (28, 3, 2)], [], [], [], [])
def tm_X4_has : mx_M := (yX4_has, RX4, cX4_has, 2, (some .boolean), 1, 1, (0, 3), [(18, 3, 0)], [], [], [], [])
def tm_X4_hasCell : mx_M := (yX4_hasCell, RX4, cX4_hasCell, 3, (some .boolean), 1, 2, (0, 3), [(18, 3, 0)], [], [], [], [])
def tm_X4_init : mx_M := (yX4_init, RX4, cX4_init, 2, none, 1, 1, (2, 3), [(18, 3, 0), (24, 3, 1), (28, 3, 2), (32, 3, 3)], [(3, 0), (9, 2), (15, 1)], [], [], [])
def tm_X5_blocksForLength : mx_M := (yX5_blocksForLength, RX5, cX5_blocksForLength, 1, (some .int), 1, 1, (1, 4), [], [(215, 2)], [], [], [])
def tm_X5_headSector : mx_M := (yX5_headSector, RX5, cX5_headSector, 1, (some .int), 1, 1, (1, 4), [], [], [], [], [])
def tm_X5_isInLog : mx_M := (yX5_isInLog, RX5, cX5_isInLog, 2, (some .boolean), 1, 1, (0, 4), [(50, 4, 7)], [], [], [], [])
def tm_X5_isOpen : mx_M := (yX5_isOpen, RX5, cX5_isOpen, 1, (some .boolean), 1, 0, (0, 4), [(54, 4, 11)], [], [], [], [])
def tm_X5_isRowNumber : mx_M := (yX5_isRowNumber, RX5, cX5_isRowNumber, 2, (some .boolean), 1, 1, (0, 4), [(65, 4, 8)], [], [], [], [])
def tm_X5_sumOf : mx_M := (yX5_sumOf, RX5, cX5_sumOf, 5, (some .int), 1, 2, (1, 4), [], [], [], [(274, (461845907 : Int32))], [])
def tm_X6_begin : mx_M := (yX6_begin, RX6, cX6_begin, 6, none, 1, 4, (0, 5), [(40, 5, 17)], [], [], [], [])
def tm_X6_blockAt : mx_M := (yX6_blockAt, RX6, cX6_blockAt, 3, (some .int), 1, 2, (0, 5), [(7, 5, 2)], [], [], [], [])
def tm_X6_generationAt : mx_M := (yX6_generationAt, RX6, cX6_generationAt, 3, (some .int), 1, 1, (0, 5), [(7, 5, 2)], [], [], [], [])
def tm_X6_in : mx_M := (yX6_in, RX6, cX6_in, 3, (some .boolean), 1, 3, (1, 5), [], [], [], [], [])
def tm_X6_init : mx_M := (yX6_init, RX6, cX6_init, 2, none, 1, 1, (2, 5), [(7, 5, 2), (13, 5, 3), (17, 5, 4), (21, 5, 5), (25, 5, 10), (28, 5, 12), (31, 5, 14), (34, 5, 15), (37, 5, 16), (40, 5, 17), (43, 5, 18), (46, 5, 20), (49, 5, 21), (52, 5, 22), (55, 5, 23), (58, 5, 24), (61, 5, 25), (64, 5, 26), (67, 5, 1)], [(1, 0)], [], [], [])
def tm_X6_isInLog : mx_M := (yX6_isInLog, RX6, cX6_isInLog, 2, (some .boolean), 1, 1, (0, 5), [(21, 5, 5)], [], [], [], [])
def tm_X6_sizeAt : mx_M := (yX6_sizeAt, RX6, cX6_sizeAt, 2, (some .int), 1, 1, (0, 5), [(7, 5, 2)], [], [], [], [])
def tm_X6_sumOf : mx_M := (yX6_sumOf, RX6, cX6_sumOf, 5, (some .int), 1, 2, (1, 5), [], [], [], [(77, (461845907 : Int32))], [])
def tm_X6_told : mx_M := (yX6_told, RX6, cX6_told, 4, (some .int), 1, 1, (0, 5), [(70, 5, 0), (17, 5, 4), (21, 5, 5), (100, 5, 6), (153, 5, 7), (93, 5, 13), (165, 5, 8), (125, 5, 9), (25, 5, 10), (116, 5, 11), (67, 5, 1), (13, 5, 3)], [], [], [], [])
def tm_X6_twice : mx_M := (yX6_twice, RX6, cX6_twice, 2, (some .int), 1, 1, (1, 5), [], [], [], [], [])
def tm_X6_weight : mx_M := (yX6_weight, RX6, cX6_weight, 2, (some .int), 1, 2, (1, 5), [], [], [], [], [])
def tm_X0_begin : mx_M := (yX0_begin, RX0, cX0_begin, 5, none, 2, 4, (0, 0), [(9, 0, 0)], [(15, 4)], [], [], [])
def tm_X0_seal : mx_M := (yX0_seal, RX0, cX0_seal, 3, none, 2, 0, (0, 0), [(9, 0, 0)], [(21, 28)], [], [], [])
def tm_X1_times : mx_M := (yX1_times, RX1, cX1_times, 4, (some .int), 2, 2, (1, 99), [], [(7, 8)], [], [], [])
def tm_X2_clear : mx_M := (yX2_clear, RX2, cX2_clear, 1, none, 2, 0, (0, 1), [(24, 1, 4), (15, 1, 1), (18, 1, 2)], [(28, 4)], [], [], [])
def tm_X4_content : mx_M := (yX4_content, RX4, cX4_content, 3, (some .int), 2, 2, (0, 3), [], [(35, 17)], [], [], [])
def tm_X4_copyTo : mx_M := (yX4_copyTo, RX4, cX4_copyTo, 4, none, 2, 3, (0, 3), [(24, 3, 1)], [(38, 20), (55, 3)], [], [], [])
def tm_X4_hasContentOf : mx_M := (yX4_hasContentOf, RX4, cX4_hasContentOf, 4, (some .boolean), 2, 2, (0, 3), [], [(35, 17), (42, 5)], [], [], [])
def tm_X4_isLost : mx_M := (yX4_isLost, RX4, cX4_isLost, 2, (some .boolean), 2, 1, (0, 3), [(28, 3, 2)], [(38, 20)], [], [], [])
def tm_X4_judge : mx_M := (yX4_judge, RX4, cX4_judge, 5, none, 2, 1, (0, 3), [(24, 3, 1), (32, 3, 3), (28, 3, 2)], [(38, 20), (35, 17), (61, 28)], [], [], [])
def tm_X4_markLost : mx_M := (yX4_markLost, RX4, cX4_markLost, 2, none, 2, 1, (0, 3), [(28, 3, 2), (32, 3, 3)], [(38, 20)], [], [], [])
def tm_X4_wholeSort : mx_M := (yX4_wholeSort, RX4, cX4_wholeSort, 2, (some .int), 2, 1, (0, 3), [(32, 3, 3)], [(38, 20)], [], [], [])
def tm_X5_add : mx_M := (yX5_add, RX5, cX5_add, 5, (some .int), 2, 2, (0, 4), [(46, 4, 6), (54, 4, 11), (39, 4, 4)], [(57, 26)], [], [], [])
def tm_X5_init : mx_M := (yX5_init, RX5, cX5_init, 2, none, 2, 1, (2, 4), [(12, 4, 0), (21, 4, 1), (28, 4, 2), (35, 4, 3), (39, 4, 4), (43, 4, 5), (46, 4, 6), (50, 4, 7), (54, 4, 11)], [(1, 0), (9, 22), (20, 15), (27, 6), (34, 10)], [(7, 3), (18, 2), (25, 0), (32, 1)], [], [])
def tm_X5_lengthOfRow : mx_M := (yX5_lengthOfRow, RX5, cX5_lengthOfRow, 2, (some .int), 2, 1, (0, 4), [(12, 4, 0)], [(170, 17)], [], [], [])
def tm_X5_octet : mx_M := (yX5_octet, RX5, cX5_octet, 3, (some .int), 2, 2, (0, 4), [(12, 4, 0)], [(185, 21), (170, 17)], [], [], [])
def tm_X5_sectorsLeft : mx_M := (yX5_sectorsLeft, RX5, cX5_sectorsLeft, 1, (some .int), 2, 0, (0, 4), [(12, 4, 0), (50, 4, 7)], [(205, 18)], [], [], [])
def tm_X5_told : mx_M := (yX5_told, RX5, cX5_told, 2, (some .int), 2, 1, (0, 4), [(46, 4, 6), (50, 4, 7), (65, 4, 8), (109, 4, 9), (21, 4, 1), (144, 4, 12), (199, 4, 13), (54, 4, 11), (12, 4, 0)], [(125, 16), (202, 19), (205, 18)], [], [], [])
def tm_X6_add : mx_M := (yX6_add, RX6, cX6_add, 5, (some .int), 2, 2, (0, 5), [(70, 5, 0), (17, 5, 4), (25, 5, 10), (116, 5, 11), (28, 5, 12)], [(73, 32)], [], [], [(119, (255 : Int64))])
def tm_X6_blocksAt : mx_M := (yX6_blocksAt, RX6, cX6_blocksAt, 2, (some .int), 2, 1, (0, 5), [], [(103, 35)], [], [], [])
def tm_X6_head : mx_M := (yX6_head, RX6, cX6_head, 3, none, 2, 1, (0, 5), [(40, 5, 17), (21, 5, 5), (100, 5, 6)], [(121, 29)], [], [], [])
def tm_X6_isRow : mx_M := (yX6_isRow, RX6, cX6_isRow, 2, (some .boolean), 2, 1, (0, 5), [(100, 5, 6)], [(73, 32)], [], [], [])
def tm_X6_isSector : mx_M := (yX6_isSector, RX6, cX6_isSector, 2, (some .boolean), 2, 1, (0, 5), [(67, 5, 1)], [(73, 32)], [], [], [])
def tm_X6_open : mx_M := (yX6_open, RX6, cX6_open, 2, (some .int), 2, 1, (0, 5), [(70, 5, 0), (17, 5, 4), (25, 5, 10), (67, 5, 1), (21, 5, 5), (100, 5, 6), (116, 5, 11)], [(73, 32)], [], [], [])
def tm_X6_product : mx_M := (yX6_product, RX6, cX6_product, 5, (some .int), 2, 2, (1, 5), [], [(135, 38)], [], [], [])
def tm_X6_seal : mx_M := (yX6_seal, RX6, cX6_seal, 3, none, 2, 0, (0, 5), [(40, 5, 17)], [(78, 36)], [], [], [])
def tm_X6_sortOf : mx_M := (yX6_sortOf, RX6, cX6_sortOf, 4, (some .int), 2, 1, (0, 5), [(7, 5, 2), (13, 5, 3)], [(73, 32), (78, 36)], [], [], [])
def tm_X1_inverse : mx_M := (yX1_inverse, RX1, cX1_inverse, 2, (some .int), 3, 1, (1, 99), [], [(13, 42)], [], [], [])
def tm_X2_solve : mx_M := (yX2_solve, RX2, cX2_solve, 6, (some .boolean), 3, 3, (0, 1), [(24, 1, 4), (18, 1, 2), (15, 1, 1), (21, 1, 3), (44, 1, 5)], [(34, 42)], [], [], [])
def tm_X3_note : mx_M := (yX3_note, RX3, cX3_note, 3, none, 3, 2, (0, 2), [(22, 2, 3), (9, 2, 0), (18, 2, 2), (15, 2, 1)], [(26, 47), (32, 45)], [], [], [])
def tm_X4_flip : mx_M := (yX4_flip, RX4, cX4_flip, 4, none, 3, 3, (0, 3), [(24, 3, 1)], [(47, 21), (51, 48)], [], [], [])
def tm_X4_store : mx_M := (yX4_store, RX4, cX4_store, 5, none, 3, 3, (0, 3), [(24, 3, 1), (28, 3, 2)], [(38, 20), (42, 5), (51, 48)], [], [], [])
def tm_X4_takeBack : mx_M := (yX4_takeBack, RX4, cX4_takeBack, 6, none, 3, 5, (0, 3), [(24, 3, 1), (28, 3, 2)], [(47, 21), (55, 3), (51, 48)], [], [], [])
def tm_X5_blocksOfRow : mx_M := (yX5_blocksOfRow, RX5, cX5_blocksOfRow, 2, (some .int), 3, 1, (0, 4), [], [(150, 53), (77, 23)], [], [], [])
def tm_X5_draftHead : mx_M := (yX5_draftHead, RX5, cX5_draftHead, 3, none, 3, 1, (0, 4), [(28, 4, 2), (50, 4, 7), (65, 4, 8)], [(84, 40), (88, 7), (231, 41)], [], [], [])
def tm_X5_extendLog : mx_M := (yX5_extendLog, RX5, cX5_extendLog, 2, none, 3, 0, (0, 4), [(12, 4, 0), (50, 4, 7)], [(205, 18), (193, 50)], [], [], [])
def tm_X5_findRow : mx_M := (yX5_findRow, RX5, cX5_findRow, 3, (some .int), 3, 1, (0, 4), [(50, 4, 7), (12, 4, 0)], [(193, 50), (170, 17), (150, 53)], [], [], [])
def tm_X5_findSymbol : mx_M := (yX5_findSymbol, RX5, cX5_findSymbol, 4, (some .int), 3, 2, (0, 4), [(50, 4, 7), (12, 4, 0)], [(193, 50), (170, 17)], [], [], [])
def tm_X5_generationIn : mx_M := (yX5_generationIn, RX5, cX5_generationIn, 4, (some .int), 3, 1, (0, 4), [(12, 4, 0)], [(160, 44)], [], [], [])
def tm_X5_isBlock : mx_M := (yX5_isBlock, RX5, cX5_isBlock, 2, (some .boolean), 3, 1, (0, 4), [(12, 4, 0)], [(208, 25), (193, 50)], [], [], [])
def tm_X5_isHead : mx_M := (yX5_isHead, RX5, cX5_isHead, 3, (some .boolean), 3, 1, (0, 4), [(12, 4, 0)], [(160, 44), (193, 50), (205, 18)], [], [], [])
def tm_X5_lose : mx_M := (yX5_lose, RX5, cX5_lose, 2, (some .int), 3, 1, (0, 4), [(12, 4, 0)], [(176, 20), (179, 47), (182, 49)], [], [], [])
def tm_X5_open : mx_M := (yX5_open, RX5, cX5_open, 2, (some .int), 3, 1, (0, 4), [(46, 4, 6), (65, 4, 8), (39, 4, 4), (74, 4, 10), (54, 4, 11)], [(57, 26), (61, 55), (68, 4)], [], [], [])
def tm_X5_whole : mx_M := (yX5_whole, RX5, cX5_whole, 2, (some .int), 3, 1, (0, 4), [(12, 4, 0)], [(176, 20), (193, 50)], [], [], [])
def tm_X6_isBlock : mx_M := (yX6_isBlock, RX6, cX6_isBlock, 2, (some .boolean), 3, 1, (0, 5), [], [(82, 34), (86, 65)], [], [], [])
def tm_X6_isHead : mx_M := (yX6_isHead, RX6, cX6_isHead, 2, (some .boolean), 3, 1, (0, 5), [(7, 5, 2), (67, 5, 1)], [(86, 65), (73, 32)], [], [], [])
def tm_X6_lose : mx_M := (yX6_lose, RX6, cX6_lose, 3, (some .int), 3, 1, (0, 5), [(70, 5, 0), (13, 5, 3)], [(200, 61)], [], [], [])
def tm_X6_octet : mx_M := (yX6_octet, RX6, cX6_octet, 3, (some .int), 3, 2, (0, 5), [(70, 5, 0), (7, 5, 2)], [(200, 61), (73, 32)], [], [], [])
def tm_X6_poke : mx_M := (yX6_poke, RX6, cX6_poke, 4, (some .int), 3, 3, (0, 5), [(70, 5, 0), (7, 5, 2)], [(200, 61), (73, 32)], [], [], [])
def tm_X6_quotient : mx_M := (yX6_quotient, RX6, cX6_quotient, 3, (some .int), 3, 2, (1, 5), [], [(138, 63)], [], [], [])
def tm_X6_sectorOf : mx_M := (yX6_sectorOf, RX6, cX6_sectorOf, 4, (some .int), 3, 1, (0, 5), [(21, 5, 5), (7, 5, 2)], [(86, 65)], [], [], [])
def tm_X6_symbolOf : mx_M := (yX6_symbolOf, RX6, cX6_symbolOf, 5, (some .int), 3, 2, (0, 5), [(21, 5, 5), (7, 5, 2)], [(86, 65)], [], [], [])
def tm_X6_whole : mx_M := (yX6_whole, RX6, cX6_whole, 2, (some .int), 3, 1, (0, 5), [(70, 5, 0)], [(200, 61), (86, 65)], [], [], [])
def tm_X6_write : mx_M := (yX6_write, RX6, cX6_write, 3, none, 3, 1, (0, 5), [(31, 5, 14), (93, 5, 13), (37, 5, 16), (13, 5, 3), (34, 5, 15), (7, 5, 2), (40, 5, 17)], [(90, 64)], [], [], [])
def tm_X2_prepare : mx_M := (yX2_prepare, RX2, cX2_prepare, 4, (some .boolean), 4, 2, (0, 1), [(24, 1, 4), (15, 1, 1), (18, 1, 2), (44, 1, 5)], [(28, 4), (34, 42), (40, 66)], [], [], [])
def tm_X3_undoBehind : mx_M := (yX3_undoBehind, RX3, cX3_undoBehind, 5, none, 4, 3, (0, 2), [(22, 2, 3), (9, 2, 0), (15, 2, 1), (18, 2, 2)], [(36, 71)], [], [], [])
def tm_X5_at : mx_M := (yX5_at, RX5, cX5_at, 5, (some .int), 4, 2, (0, 4), [(46, 4, 6), (12, 4, 0)], [(95, 27), (99, 75), (150, 53), (160, 44), (164, 78)], [], [], [])
def tm_X5_chooseHead : mx_M := (yX5_chooseHead, RX5, cX5_chooseHead, 1, (some .int), 4, 0, (0, 4), [], [(238, 79), (241, 77)], [], [], [])
def tm_X5_collectGaps : mx_M := (yX5_collectGaps, RX5, cX5_collectGaps, 6, (some .boolean), 4, 1, (0, 4), [(35, 4, 3), (12, 4, 0)], [(264, 43), (167, 72), (160, 44), (208, 25), (164, 78), (265, 11), (220, 8), (267, 13)], [], [], [])
def tm_X5_countMissing : mx_M := (yX5_countMissing, RX5, cX5_countMissing, 5, (some .int), 4, 1, (0, 4), [(12, 4, 0)], [(167, 72), (160, 44), (164, 78)], [], [], [])
def tm_X5_countRows : mx_M := (yX5_countRows, RX5, cX5_countRows, 2, none, 4, 0, (0, 4), [(65, 4, 8)], [(99, 75)], [], [], [])
def tm_X5_fillGaps : mx_M := (yX5_fillGaps, RX5, cX5_fillGaps, 4, none, 4, 0, (0, 4), [(35, 4, 3), (28, 4, 2), (12, 4, 0), (144, 4, 12)], [(267, 13), (84, 40), (268, 9), (88, 7), (231, 41), (271, 12), (118, 70)], [], [], [])
def tm_X5_findDraftedBlock : mx_M := (yX5_findDraftedBlock, RX5, cX5_findDraftedBlock, 2, (some .int), 4, 0, (0, 4), [(50, 4, 7), (12, 4, 0), (28, 4, 2)], [(164, 78), (211, 46)], [], [], [])
def tm_X5_poke : mx_M := (yX5_poke, RX5, cX5_poke, 4, (some .int), 4, 3, (0, 4), [(12, 4, 0)], [(185, 21), (189, 69), (170, 17)], [], [], [])
def tm_X5_symbolByte : mx_M := (yX5_symbolByte, RX5, cX5_symbolByte, 8, (some .int), 4, 3, (0, 4), [(12, 4, 0)], [(167, 72), (160, 44), (164, 78), (220, 8)], [], [], [])
def tm_X5_sync : mx_M := (yX5_sync, RX5, cX5_sync, 1, (some .int), 4, 0, (0, 4), [(46, 4, 6), (109, 4, 9), (12, 4, 0), (28, 4, 2), (21, 4, 1)], [(112, 73), (115, 24), (118, 70), (122, 14)], [], [], [])
def tm_X5_tearHead : mx_M := (yX5_tearHead, RX5, cX5_tearHead, 3, none, 4, 1, (0, 4), [(109, 4, 9), (12, 4, 0), (28, 4, 2)], [(112, 73), (115, 24), (118, 70)], [], [], [])
def tm_X5_writeNext : mx_M := (yX5_writeNext, RX5, cX5_writeNext, 1, (some .int), 4, 0, (0, 4), [(12, 4, 0), (50, 4, 7), (28, 4, 2), (21, 4, 1)], [(176, 20), (231, 41), (234, 68), (118, 70)], [], [], [])
def tm_X6_append : mx_M := (yX6_append, RX6, cX6_append, 1, (some .int), 4, 0, (0, 5), [(21, 5, 5)], [(96, 92)], [], [], [])
def tm_X6_at : mx_M := (yX6_at, RX6, cX6_at, 5, (some .int), 4, 2, (0, 5), [(70, 5, 0), (17, 5, 4), (7, 5, 2)], [(141, 60), (144, 89), (103, 35), (109, 30), (113, 83)], [], [], [])
def tm_X6_cut : mx_M := (yX6_cut, RX6, cX6_cut, 6, (some .int), 4, 2, (0, 5), [(70, 5, 0), (93, 5, 13), (17, 5, 4), (153, 5, 7), (31, 5, 14), (7, 5, 2), (34, 5, 15), (13, 5, 3), (37, 5, 16), (25, 5, 10)], [(73, 32), (156, 59), (96, 92)], [], [], [])
def tm_X6_fill : mx_M := (yX6_fill, RX6, cX6_fill, 4, none, 4, 2, (0, 5), [(40, 5, 17), (93, 5, 13), (165, 5, 8)], [(121, 29), (96, 92)], [], [], [])
def tm_X6_findRest : mx_M := (yX6_findRest, RX6, cX6_findRest, 9, none, 4, 4, (0, 5), [(7, 5, 2)], [(106, 58), (109, 30), (113, 83), (150, 39), (138, 63)], [], [], [])
def tm_X6_findUnknown : mx_M := (yX6_findUnknown, RX6, cX6_findUnknown, 6, (some .boolean), 4, 1, (0, 5), [(172, 5, 19), (46, 5, 20), (49, 5, 21), (52, 5, 22)], [(106, 58), (109, 30), (113, 83), (82, 34), (150, 39)], [], [], [])
def tm_X6_isOne : mx_M := (yX6_isOne, RX6, cX6_isOne, 7, (some .boolean), 4, 2, (0, 5), [(49, 5, 21), (52, 5, 22), (61, 5, 25), (55, 5, 23), (58, 5, 24)], [(175, 88), (138, 63)], [], [], [])
def tm_X6_isTwo : mx_M := (yX6_isTwo, RX6, cX6_isTwo, 4, (some .boolean), 4, 1, (0, 5), [(49, 5, 21), (52, 5, 22), (61, 5, 25), (55, 5, 23), (58, 5, 24), (64, 5, 26)], [(138, 63), (175, 88)], [], [], [])
def tm_X6_missingAt : mx_M := (yX6_missingAt, RX6, cX6_missingAt, 4, (some .int), 4, 1, (0, 5), [], [(106, 58), (109, 30), (113, 83)], [], [], [])
def tm_X6_sync : mx_M := (yX6_sync, RX6, cX6_sync, 1, (some .int), 4, 0, (0, 5), [(70, 5, 0), (17, 5, 4), (153, 5, 7), (93, 5, 13)], [(156, 59), (96, 92)], [], [], [])
def tm_X5_cut : mx_M := (yX5_cut, RX5, cX5_cut, 3, (some .int), 5, 2, (0, 4), [(21, 4, 1), (46, 4, 6), (12, 4, 0), (54, 4, 11)], [(125, 16), (128, 105), (131, 94)], [], [], [])
def tm_X5_isHurt : mx_M := (yX5_isHurt, RX5, cX5_isHurt, 3, (some .boolean), 5, 1, (0, 4), [], [(99, 75), (102, 98)], [], [], [])
def tm_X5_placeOpenBlock : mx_M := (yX5_placeOpenBlock, RX5, cX5_placeOpenBlock, 4, (some .int), 5, 1, (0, 4), [(28, 4, 2), (39, 4, 4), (199, 4, 13)], [(84, 40), (88, 7), (225, 101), (92, 106)], [], [], [])
def tm_X5_readHead : mx_M := (yX5_readHead, RX5, cX5_readHead, 2, none, 5, 0, (0, 4), [(109, 4, 9), (12, 4, 0), (50, 4, 7), (65, 4, 8)], [(244, 96), (241, 77), (160, 44)], [], [], [])
def tm_X5_repairRow : mx_M := (yX5_repairRow, RX5, cX5_repairRow, 8, none, 5, 1, (0, 4), [(35, 4, 3), (12, 4, 0)], [(99, 75), (250, 97), (173, 76), (253, 93), (160, 44), (228, 103), (257, 67), (261, 100)], [], [], [])
def tm_X5_row : mx_M := (yX5_row, RX5, cX5_row, 6, (some .int), 5, 2, (0, 4), [(46, 4, 6), (12, 4, 0)], [(95, 27), (99, 75), (167, 72), (160, 44), (170, 17), (150, 53), (173, 76), (102, 98)], [], [], [])
def tm_X5_writeSymbol : mx_M := (yX5_writeSymbol, RX5, cX5_writeSymbol, 5, (some .int), 5, 3, (0, 4), [(28, 4, 2)], [(84, 40), (228, 103), (88, 7), (92, 106)], [], [], [])
def tm_X6_blockFor : mx_M := (yX6_blockFor, RX6, cX6_blockFor, 5, (some .int), 5, 1, (0, 5), [(40, 5, 17), (116, 5, 11), (28, 5, 12), (21, 5, 5), (7, 5, 2), (125, 5, 9)], [(121, 29), (86, 65), (128, 107)], [], [], [])
def tm_X6_listed : mx_M := (yX6_listed, RX6, cX6_listed, 5, (some .int), 5, 1, (0, 5), [(70, 5, 0), (100, 5, 6), (17, 5, 4)], [(144, 89), (147, 115)], [], [], [])
def tm_X6_protect : mx_M := (yX6_protect, RX6, cX6_protect, 9, (some .int), 5, 2, (0, 5), [(70, 5, 0), (17, 5, 4), (67, 5, 1), (21, 5, 5), (25, 5, 10), (40, 5, 17), (7, 5, 2)], [(141, 60), (73, 32), (144, 89), (147, 115), (121, 29), (106, 58), (109, 30), (150, 39), (138, 63), (128, 107)], [], [], [])
def tm_X6_repairs : mx_M := (yX6_repairs, RX6, cX6_repairs, 6, (some .boolean), 5, 2, (0, 5), [(172, 5, 19), (55, 5, 23), (58, 5, 24), (46, 5, 20), (61, 5, 25), (64, 5, 26)], [(178, 112), (181, 90), (184, 111), (188, 113), (192, 114), (196, 110)], [], [], [])
def tm_X6_row : mx_M := (yX6_row, RX6, cX6_row, 4, (some .int), 5, 2, (0, 5), [(70, 5, 0), (17, 5, 4), (7, 5, 2)], [(141, 60), (73, 32), (144, 89), (103, 35), (181, 90), (106, 58), (147, 115), (109, 30)], [], [], [])
def tm_X5_end : mx_M := (yX5_end, RX5, cX5_end, 3, (some .int), 6, 0, (0, 4), [(46, 4, 6), (54, 4, 11), (43, 4, 5), (28, 4, 2), (74, 4, 10), (65, 4, 8)], [(57, 26), (77, 23), (81, 119), (84, 40), (88, 7), (92, 106)], [], [], [])
def tm_X5_listed : mx_M := (yX5_listed, RX5, cX5_listed, 4, (some .int), 6, 1, (0, 4), [(46, 4, 6), (65, 4, 8)], [(196, 118)], [], [], [])
def tm_X5_protect : mx_M := (yX5_protect, RX5, cX5_protect, 5, (some .int), 6, 2, (0, 4), [(46, 4, 6)], [(95, 27), (99, 75), (102, 98), (61, 55), (57, 26), (105, 123)], [], [], [])
def tm_X5_repairAll : mx_M := (yX5_repairAll, RX5, cX5_repairAll, 4, none, 6, 0, (0, 4), [(144, 4, 12), (65, 4, 8)], [(247, 121)], [], [], [])
def tm_X6_end : mx_M := (yX6_end, RX6, cX6_end, 3, (some .int), 6, 0, (0, 5), [(70, 5, 0), (17, 5, 4), (25, 5, 10), (116, 5, 11), (43, 5, 18), (100, 5, 6), (40, 5, 17)], [(132, 124), (121, 29), (128, 107)], [], [], [])
def tm_X6_start : mx_M := (yX6_start, RX6, cX6_start, 7, (some .int), 6, 0, (0, 5), [(70, 5, 0), (17, 5, 4), (153, 5, 7), (7, 5, 2), (21, 5, 5), (100, 5, 6), (67, 5, 1), (165, 5, 8), (93, 5, 13)], [(159, 84), (162, 31), (86, 65), (144, 89), (168, 127)], [], [], [])
def tm_X5_start : mx_M := (yX5_start, RX5, cX5_start, 1, (some .int), 7, 0, (0, 4), [(46, 4, 6), (144, 4, 12), (21, 4, 1), (65, 4, 8)], [(135, 120), (138, 74), (141, 99), (147, 132), (122, 14)], [], [], [])
def tb_rows : List mx_M := [tm_J7_fill_53178, tm_X0_cell, tm_X0_init, tm_X0_setContent, tm_X1_twice, tm_X2_filling, tm_X2_init, tm_X2_note, tm_X2_sectorOf, tm_X2_size, tm_X3_clear, tm_X3_init, tm_X3_size, tm_X4_cell, tm_X4_count, tm_X4_countLost, tm_X4_has, tm_X4_hasCell, tm_X4_init, tm_X5_blocksForLength, tm_X5_headSector, tm_X5_isInLog, tm_X5_isOpen, tm_X5_isRowNumber, tm_X5_sumOf, tm_X6_begin, tm_X6_blockAt, tm_X6_generationAt, tm_X6_in, tm_X6_init, tm_X6_isInLog, tm_X6_sizeAt, tm_X6_sumOf, tm_X6_told, tm_X6_twice, tm_X6_weight, tm_X0_begin, tm_X0_seal, tm_X1_times, tm_X2_clear, tm_X4_content, tm_X4_copyTo, tm_X4_hasContentOf, tm_X4_isLost, tm_X4_judge, tm_X4_markLost, tm_X4_wholeSort, tm_X5_add, tm_X5_init, tm_X5_lengthOfRow, tm_X5_octet, tm_X5_sectorsLeft, tm_X5_told, tm_X6_add, tm_X6_blocksAt, tm_X6_head, tm_X6_isRow, tm_X6_isSector, tm_X6_open, tm_X6_product, tm_X6_seal, tm_X6_sortOf, tm_X1_inverse, tm_X2_solve, tm_X3_note, tm_X4_flip, tm_X4_store, tm_X4_takeBack, tm_X5_blocksOfRow, tm_X5_draftHead, tm_X5_extendLog, tm_X5_findRow, tm_X5_findSymbol, tm_X5_generationIn, tm_X5_isBlock, tm_X5_isHead, tm_X5_lose, tm_X5_open, tm_X5_whole, tm_X6_isBlock, tm_X6_isHead, tm_X6_lose, tm_X6_octet, tm_X6_poke, tm_X6_quotient, tm_X6_sectorOf, tm_X6_symbolOf, tm_X6_whole, tm_X6_write, tm_X2_prepare, tm_X3_undoBehind, tm_X5_at, tm_X5_chooseHead, tm_X5_collectGaps, tm_X5_countMissing, tm_X5_countRows, tm_X5_fillGaps, tm_X5_findDraftedBlock, tm_X5_poke, tm_X5_symbolByte, tm_X5_sync, tm_X5_tearHead, tm_X5_writeNext, tm_X6_append, tm_X6_at, tm_X6_cut, tm_X6_fill, tm_X6_findRest, tm_X6_findUnknown, tm_X6_isOne, tm_X6_isTwo, tm_X6_missingAt, tm_X6_sync, tm_X5_cut, tm_X5_isHurt, tm_X5_placeOpenBlock, tm_X5_readHead, tm_X5_repairRow, tm_X5_row, tm_X5_writeSymbol, tm_X6_blockFor, tm_X6_listed, tm_X6_protect, tm_X6_repairs, tm_X6_row, tm_X5_end, tm_X5_listed, tm_X5_protect, tm_X5_repairAll, tm_X6_end, tm_X6_start, tm_X5_start]
def tb_MT (n : Nat) : Option mx_M := match n with
  | k + 4 => tb_rows[k]?
  | _ => none
theorem tn_J7_fill_53178 : tb_MT 4 = some tm_J7_fill_53178 := rfl
theorem tn_X0_cell : tb_MT 5 = some tm_X0_cell := rfl
theorem tn_X0_init : tb_MT 6 = some tm_X0_init := rfl
theorem tn_X0_setContent : tb_MT 7 = some tm_X0_setContent := rfl
theorem tn_X1_twice : tb_MT 8 = some tm_X1_twice := rfl
theorem tn_X2_filling : tb_MT 9 = some tm_X2_filling := rfl
theorem tn_X2_init : tb_MT 10 = some tm_X2_init := rfl
theorem tn_X2_note : tb_MT 11 = some tm_X2_note := rfl
theorem tn_X2_sectorOf : tb_MT 12 = some tm_X2_sectorOf := rfl
theorem tn_X2_size : tb_MT 13 = some tm_X2_size := rfl
theorem tn_X3_clear : tb_MT 14 = some tm_X3_clear := rfl
theorem tn_X3_init : tb_MT 15 = some tm_X3_init := rfl
theorem tn_X3_size : tb_MT 16 = some tm_X3_size := rfl
theorem tn_X4_cell : tb_MT 17 = some tm_X4_cell := rfl
theorem tn_X4_count : tb_MT 18 = some tm_X4_count := rfl
theorem tn_X4_countLost : tb_MT 19 = some tm_X4_countLost := rfl
theorem tn_X4_has : tb_MT 20 = some tm_X4_has := rfl
theorem tn_X4_hasCell : tb_MT 21 = some tm_X4_hasCell := rfl
theorem tn_X4_init : tb_MT 22 = some tm_X4_init := rfl
theorem tn_X5_blocksForLength : tb_MT 23 = some tm_X5_blocksForLength := rfl
theorem tn_X5_headSector : tb_MT 24 = some tm_X5_headSector := rfl
theorem tn_X5_isInLog : tb_MT 25 = some tm_X5_isInLog := rfl
theorem tn_X5_isOpen : tb_MT 26 = some tm_X5_isOpen := rfl
theorem tn_X5_isRowNumber : tb_MT 27 = some tm_X5_isRowNumber := rfl
theorem tn_X5_sumOf : tb_MT 28 = some tm_X5_sumOf := rfl
theorem tn_X6_begin : tb_MT 29 = some tm_X6_begin := rfl
theorem tn_X6_blockAt : tb_MT 30 = some tm_X6_blockAt := rfl
theorem tn_X6_generationAt : tb_MT 31 = some tm_X6_generationAt := rfl
theorem tn_X6_in : tb_MT 32 = some tm_X6_in := rfl
theorem tn_X6_init : tb_MT 33 = some tm_X6_init := rfl
theorem tn_X6_isInLog : tb_MT 34 = some tm_X6_isInLog := rfl
theorem tn_X6_sizeAt : tb_MT 35 = some tm_X6_sizeAt := rfl
theorem tn_X6_sumOf : tb_MT 36 = some tm_X6_sumOf := rfl
theorem tn_X6_told : tb_MT 37 = some tm_X6_told := rfl
theorem tn_X6_twice : tb_MT 38 = some tm_X6_twice := rfl
theorem tn_X6_weight : tb_MT 39 = some tm_X6_weight := rfl
theorem tn_X0_begin : tb_MT 40 = some tm_X0_begin := rfl
theorem tn_X0_seal : tb_MT 41 = some tm_X0_seal := rfl
theorem tn_X1_times : tb_MT 42 = some tm_X1_times := rfl
theorem tn_X2_clear : tb_MT 43 = some tm_X2_clear := rfl
theorem tn_X4_content : tb_MT 44 = some tm_X4_content := rfl
theorem tn_X4_copyTo : tb_MT 45 = some tm_X4_copyTo := rfl
theorem tn_X4_hasContentOf : tb_MT 46 = some tm_X4_hasContentOf := rfl
theorem tn_X4_isLost : tb_MT 47 = some tm_X4_isLost := rfl
theorem tn_X4_judge : tb_MT 48 = some tm_X4_judge := rfl
theorem tn_X4_markLost : tb_MT 49 = some tm_X4_markLost := rfl
theorem tn_X4_wholeSort : tb_MT 50 = some tm_X4_wholeSort := rfl
theorem tn_X5_add : tb_MT 51 = some tm_X5_add := rfl
theorem tn_X5_init : tb_MT 52 = some tm_X5_init := rfl
theorem tn_X5_lengthOfRow : tb_MT 53 = some tm_X5_lengthOfRow := rfl
theorem tn_X5_octet : tb_MT 54 = some tm_X5_octet := rfl
theorem tn_X5_sectorsLeft : tb_MT 55 = some tm_X5_sectorsLeft := rfl
theorem tn_X5_told : tb_MT 56 = some tm_X5_told := rfl
theorem tn_X6_add : tb_MT 57 = some tm_X6_add := rfl
theorem tn_X6_blocksAt : tb_MT 58 = some tm_X6_blocksAt := rfl
theorem tn_X6_head : tb_MT 59 = some tm_X6_head := rfl
theorem tn_X6_isRow : tb_MT 60 = some tm_X6_isRow := rfl
theorem tn_X6_isSector : tb_MT 61 = some tm_X6_isSector := rfl
theorem tn_X6_open : tb_MT 62 = some tm_X6_open := rfl
theorem tn_X6_product : tb_MT 63 = some tm_X6_product := rfl
theorem tn_X6_seal : tb_MT 64 = some tm_X6_seal := rfl
theorem tn_X6_sortOf : tb_MT 65 = some tm_X6_sortOf := rfl
theorem tn_X1_inverse : tb_MT 66 = some tm_X1_inverse := rfl
theorem tn_X2_solve : tb_MT 67 = some tm_X2_solve := rfl
theorem tn_X3_note : tb_MT 68 = some tm_X3_note := rfl
theorem tn_X4_flip : tb_MT 69 = some tm_X4_flip := rfl
theorem tn_X4_store : tb_MT 70 = some tm_X4_store := rfl
theorem tn_X4_takeBack : tb_MT 71 = some tm_X4_takeBack := rfl
theorem tn_X5_blocksOfRow : tb_MT 72 = some tm_X5_blocksOfRow := rfl
theorem tn_X5_draftHead : tb_MT 73 = some tm_X5_draftHead := rfl
theorem tn_X5_extendLog : tb_MT 74 = some tm_X5_extendLog := rfl
theorem tn_X5_findRow : tb_MT 75 = some tm_X5_findRow := rfl
theorem tn_X5_findSymbol : tb_MT 76 = some tm_X5_findSymbol := rfl
theorem tn_X5_generationIn : tb_MT 77 = some tm_X5_generationIn := rfl
theorem tn_X5_isBlock : tb_MT 78 = some tm_X5_isBlock := rfl
theorem tn_X5_isHead : tb_MT 79 = some tm_X5_isHead := rfl
theorem tn_X5_lose : tb_MT 80 = some tm_X5_lose := rfl
theorem tn_X5_open : tb_MT 81 = some tm_X5_open := rfl
theorem tn_X5_whole : tb_MT 82 = some tm_X5_whole := rfl
theorem tn_X6_isBlock : tb_MT 83 = some tm_X6_isBlock := rfl
theorem tn_X6_isHead : tb_MT 84 = some tm_X6_isHead := rfl
theorem tn_X6_lose : tb_MT 85 = some tm_X6_lose := rfl
theorem tn_X6_octet : tb_MT 86 = some tm_X6_octet := rfl
theorem tn_X6_poke : tb_MT 87 = some tm_X6_poke := rfl
theorem tn_X6_quotient : tb_MT 88 = some tm_X6_quotient := rfl
theorem tn_X6_sectorOf : tb_MT 89 = some tm_X6_sectorOf := rfl
theorem tn_X6_symbolOf : tb_MT 90 = some tm_X6_symbolOf := rfl
theorem tn_X6_whole : tb_MT 91 = some tm_X6_whole := rfl
theorem tn_X6_write : tb_MT 92 = some tm_X6_write := rfl
theorem tn_X2_prepare : tb_MT 93 = some tm_X2_prepare := rfl
theorem tn_X3_undoBehind : tb_MT 94 = some tm_X3_undoBehind := rfl
theorem tn_X5_at : tb_MT 95 = some tm_X5_at := rfl
theorem tn_X5_chooseHead : tb_MT 96 = some tm_X5_chooseHead := rfl
theorem tn_X5_collectGaps : tb_MT 97 = some tm_X5_collectGaps := rfl
theorem tn_X5_countMissing : tb_MT 98 = some tm_X5_countMissing := rfl
theorem tn_X5_countRows : tb_MT 99 = some tm_X5_countRows := rfl
theorem tn_X5_fillGaps : tb_MT 100 = some tm_X5_fillGaps := rfl
theorem tn_X5_findDraftedBlock : tb_MT 101 = some tm_X5_findDraftedBlock := rfl
theorem tn_X5_poke : tb_MT 102 = some tm_X5_poke := rfl
theorem tn_X5_symbolByte : tb_MT 103 = some tm_X5_symbolByte := rfl
theorem tn_X5_sync : tb_MT 104 = some tm_X5_sync := rfl
theorem tn_X5_tearHead : tb_MT 105 = some tm_X5_tearHead := rfl
theorem tn_X5_writeNext : tb_MT 106 = some tm_X5_writeNext := rfl
theorem tn_X6_append : tb_MT 107 = some tm_X6_append := rfl
theorem tn_X6_at : tb_MT 108 = some tm_X6_at := rfl
theorem tn_X6_cut : tb_MT 109 = some tm_X6_cut := rfl
theorem tn_X6_fill : tb_MT 110 = some tm_X6_fill := rfl
theorem tn_X6_findRest : tb_MT 111 = some tm_X6_findRest := rfl
theorem tn_X6_findUnknown : tb_MT 112 = some tm_X6_findUnknown := rfl
theorem tn_X6_isOne : tb_MT 113 = some tm_X6_isOne := rfl
theorem tn_X6_isTwo : tb_MT 114 = some tm_X6_isTwo := rfl
theorem tn_X6_missingAt : tb_MT 115 = some tm_X6_missingAt := rfl
theorem tn_X6_sync : tb_MT 116 = some tm_X6_sync := rfl
theorem tn_X5_cut : tb_MT 117 = some tm_X5_cut := rfl
theorem tn_X5_isHurt : tb_MT 118 = some tm_X5_isHurt := rfl
theorem tn_X5_placeOpenBlock : tb_MT 119 = some tm_X5_placeOpenBlock := rfl
theorem tn_X5_readHead : tb_MT 120 = some tm_X5_readHead := rfl
theorem tn_X5_repairRow : tb_MT 121 = some tm_X5_repairRow := rfl
theorem tn_X5_row : tb_MT 122 = some tm_X5_row := rfl
theorem tn_X5_writeSymbol : tb_MT 123 = some tm_X5_writeSymbol := rfl
theorem tn_X6_blockFor : tb_MT 124 = some tm_X6_blockFor := rfl
theorem tn_X6_listed : tb_MT 125 = some tm_X6_listed := rfl
theorem tn_X6_protect : tb_MT 126 = some tm_X6_protect := rfl
theorem tn_X6_repairs : tb_MT 127 = some tm_X6_repairs := rfl
theorem tn_X6_row : tb_MT 128 = some tm_X6_row := rfl
theorem tn_X5_end : tb_MT 129 = some tm_X5_end := rfl
theorem tn_X5_listed : tb_MT 130 = some tm_X5_listed := rfl
theorem tn_X5_protect : tb_MT 131 = some tm_X5_protect := rfl
theorem tn_X5_repairAll : tb_MT 132 = some tm_X5_repairAll := rfl
theorem tn_X6_end : tb_MT 133 = some tm_X6_end := rfl
theorem tn_X6_start : tb_MT 134 = some tm_X6_start := rfl
theorem tn_X5_start : tb_MT 135 = some tm_X5_start := rfl
end
section
/-! the words of the table's rows -/
theorem tL_J7_fill_53178 : mx_okL tb_cl tb_GT tb_NW tb_MT tm_J7_fill_53178 := ⟨fun _ h => absurd h List.not_mem_nil, fun _ h => absurd h List.not_mem_nil, fun _ h => absurd h List.not_mem_nil, fun _ h => absurd h List.not_mem_nil, fun _ h => absurd h List.not_mem_nil⟩
set_option maxRecDepth 100000 in
theorem tw_J7_fill_53178_code : Jvm.Cond.code yJ7_fill_53178 cJ7_fill_53178 4 none ∈ tb_GT := tb_mem 222 (rfl) rfl
theorem ti_J7 : Jvm.Cond.initialized RJ7 ∈ tb_GT := tb_mem 63 (by decide +kernel) rfl
theorem tw_J7_fill_53178_static : Jvm.Cond.static yJ7_fill_53178 ∈ tb_GT := tb_mem 221 (by decide +kernel) rfl
theorem tY_J7_fill_53178 : mx_okY tb_cl tb_GT tm_J7_fill_53178 := ⟨by decide +kernel, rfl, tw_J7_fill_53178_code, ti_J7, by decide +kernel, by decide +kernel, by decide +kernel, by decide, fun _ => tw_J7_fill_53178_static, fun h => absurd h (by decide), fun h => absurd h (by decide)⟩
theorem tf_X0_9 : Jvm.Cond.fieldLink RX0 9 "PackDisk$Draft" "bytes" "[I" ∈ tb_GT := tb_mem 132 (by decide +kernel) rfl
theorem tL_X0_cell : mx_okL tb_cl tb_GT tb_NW tb_MT tm_X0_cell := ⟨List.forall_mem_cons.mpr ⟨⟨(RX0, TX0, 1), rfl, by decide, tf_X0_9⟩, fun _ h => absurd h List.not_mem_nil⟩, fun _ h => absurd h List.not_mem_nil, fun _ h => absurd h List.not_mem_nil, fun _ h => absurd h List.not_mem_nil, fun _ h => absurd h List.not_mem_nil⟩
set_option maxRecDepth 100000 in
theorem tw_X0_cell_code : Jvm.Cond.code yX0_cell cX0_cell 2 (some .int) ∈ tb_GT := tb_mem 279 (rfl) rfl
theorem ti_X0 : Jvm.Cond.initialized RX0 ∈ tb_GT := tb_mem 60 (by decide +kernel) rfl
theorem tw_X0_cell_inst : Jvm.Cond.instanceMethod yX0_cell ∈ tb_GT := tb_mem 277 (by decide +kernel) rfl
theorem tw_X0_cell_sel : Jvm.Cond.selects RX0 yX0_cell yX0_cell ∈ tb_GT := tb_mem 278 (by decide +kernel) rfl
theorem tY_X0_cell : mx_okY tb_cl tb_GT tm_X0_cell := ⟨by decide +kernel, rfl, tw_X0_cell_code, ti_X0, by decide +kernel, by decide +kernel, by decide +kernel, by decide, fun h => absurd h (by decide), fun _ => ⟨tw_X0_cell_inst, tw_X0_cell_sel, ⟨(RX0, TX0, 1), rfl, rfl⟩⟩, fun h => absurd h (by decide)⟩
theorem tj_X0_3 : Jvm.Cond.methodLink RX0 3 Lib.objectInit ∈ tb_GT := tb_mem 131 (by decide +kernel) rfl
theorem tL_X0_init : mx_okL tb_cl tb_GT tb_NW tb_MT tm_X0_init := ⟨List.forall_mem_cons.mpr ⟨⟨(RX0, TX0, 1), rfl, by decide, tf_X0_9⟩, fun _ h => absurd h List.not_mem_nil⟩, fun _ h => absurd h List.not_mem_nil, fun _ h => absurd h List.not_mem_nil, fun _ h => absurd h List.not_mem_nil, List.forall_mem_cons.mpr ⟨Or.inl ⟨rfl, tj_X0_3⟩, fun _ h => absurd h List.not_mem_nil⟩⟩
set_option maxRecDepth 100000 in
theorem tw_X0_init_code : Jvm.Cond.code yX0_init cX0_init 1 none ∈ tb_GT := tb_mem 130 (rfl) rfl
theorem tw_X0_init_inst : Jvm.Cond.instanceMethod yX0_init ∈ tb_GT := tb_mem 129 (by decide +kernel) rfl
theorem tY_X0_init : mx_okY tb_cl tb_GT tm_X0_init := ⟨by decide +kernel, rfl, tw_X0_init_code, ti_X0, by decide +kernel, by decide +kernel, by decide +kernel, by decide, fun h => absurd h (by decide), fun h => absurd h (by decide), fun _ => ⟨tw_X0_init_inst, rfl, rfl, ⟨(RX0, TX0, 1), rfl, rfl⟩⟩⟩
theorem tL_X0_setContent : mx_okL tb_cl tb_GT tb_NW tb_MT tm_X0_setContent := ⟨List.forall_mem_cons.mpr ⟨⟨(RX0, TX0, 1), rfl, by decide, tf_X0_9⟩, fun _ h => absurd h List.not_mem_nil⟩, fun _ h => absurd h List.not_mem_nil, fun _ h => absurd h List.not_mem_nil, fun _ h => absurd h List.not_mem_nil, fun _ h => absurd h List.not_mem_nil⟩
set_option maxRecDepth 100000 in
theorem tw_X0_setContent_code : Jvm.Cond.code yX0_setContent cX0_setContent 3 none ∈ tb_GT := tb_mem 247 (rfl) rfl
theorem tw_X0_setContent_inst : Jvm.Cond.instanceMethod yX0_setContent ∈ tb_GT := tb_mem 245 (by decide +kernel) rfl
theorem tw_X0_setContent_sel : Jvm.Cond.selects RX0 yX0_setContent yX0_setContent ∈ tb_GT := tb_mem 246 (by decide +kernel) rfl
theorem tY_X0_setContent : mx_okY tb_cl tb_GT tm_X0_setContent := ⟨by decide +kernel, rfl, tw_X0_setContent_code, ti_X0, by decide +kernel, by decide +kernel, by decide +kernel, by decide, fun h => absurd h (by decide), fun _ => ⟨tw_X0_setContent_inst, tw_X0_setContent_sel, ⟨(RX0, TX0, 1), rfl, rfl⟩⟩, fun h => absurd h (by decide)⟩
theorem tL_X1_twice : mx_okL tb_cl tb_GT tb_NW tb_MT tm_X1_twice := ⟨fun _ h => absurd h List.not_mem_nil, fun _ h => absurd h List.not_mem_nil, fun _ h => absurd h List.not_mem_nil, fun _ h => absurd h List.not_mem_nil, fun _ h => absurd h List.not_mem_nil⟩
set_option maxRecDepth 100000 in
theorem tw_X1_twice_code : Jvm.Cond.code yX1_twice cX1_twice 2 (some .int) ∈ tb_GT := tb_mem 356 (rfl) rfl
theorem ti_X1 : Jvm.Cond.initialized RX1 ∈ tb_GT := tb_mem 65 (by decide +kernel) rfl
theorem tw_X1_twice_static : Jvm.Cond.static yX1_twice ∈ tb_GT := tb_mem 355 (by decide +kernel) rfl
theorem tY_X1_twice : mx_okY tb_cl tb_GT tm_X1_twice := ⟨by decide +kernel, rfl, tw_X1_twice_code, ti_X1, by decide +kernel, by decide +kernel, by decide +kernel, by decide, fun _ => tw_X1_twice_static, fun h => absurd h (by decide), fun h => absurd h (by decide)⟩
theorem tf_X2_21 : Jvm.Cond.fieldLink RX2 21 "PackDisk$Gaps" "fillings" "[I" ∈ tb_GT := tb_mem 145 (by decide +kernel) rfl
theorem tL_X2_filling : mx_okL tb_cl tb_GT tb_NW tb_MT tm_X2_filling := ⟨List.forall_mem_cons.mpr ⟨⟨(RX2, TX2, 6), rfl, by decide, tf_X2_21⟩, fun _ h => absurd h List.not_mem_nil⟩, fun _ h => absurd h List.not_mem_nil, fun _ h => absurd h List.not_mem_nil, fun _ h => absurd h List.not_mem_nil, fun _ h => absurd h List.not_mem_nil⟩
set_option maxRecDepth 100000 in
theorem tw_X2_filling_code : Jvm.Cond.code yX2_filling cX2_filling 4 (some .int) ∈ tb_GT := tb_mem 476 (rfl) rfl
theorem ti_X2 : Jvm.Cond.initialized RX2 ∈ tb_GT := tb_mem 61 (by decide +kernel) rfl
theorem tw_X2_filling_inst : Jvm.Cond.instanceMethod yX2_filling ∈ tb_GT := tb_mem 474 (by decide +kernel) rfl
theorem tw_X2_filling_sel : Jvm.Cond.selects RX2 yX2_filling yX2_filling ∈ tb_GT := tb_mem 475 (by decide +kernel) rfl
theorem tY_X2_filling : mx_okY tb_cl tb_GT tm_X2_filling := ⟨by decide +kernel, rfl, tw_X2_filling_code, ti_X2, by decide +kernel, by decide +kernel, by decide +kernel, by decide, fun h => absurd h (by decide), fun _ => ⟨tw_X2_filling_inst, tw_X2_filling_sel, ⟨(RX2, TX2, 6), rfl, rfl⟩⟩, fun h => absurd h (by decide)⟩
theorem tf_X2_9 : Jvm.Cond.fieldLink RX2 9 "PackDisk$Gaps" "unknowns" "[I" ∈ tb_GT := tb_mem 142 (by decide +kernel) rfl
theorem tf_X2_15 : Jvm.Cond.fieldLink RX2 15 "PackDisk$Gaps" "inP" "[I" ∈ tb_GT := tb_mem 143 (by decide +kernel) rfl
theorem tf_X2_18 : Jvm.Cond.fieldLink RX2 18 "PackDisk$Gaps" "inQ" "[I" ∈ tb_GT := tb_mem 144 (by decide +kernel) rfl
theorem tj_X2_3 : Jvm.Cond.methodLink RX2 3 Lib.objectInit ∈ tb_GT := tb_mem 141 (by decide +kernel) rfl
theorem tL_X2_init : mx_okL tb_cl tb_GT tb_NW tb_MT tm_X2_init := ⟨List.forall_mem_cons.mpr ⟨⟨(RX2, TX2, 6), rfl, by decide, tf_X2_9⟩, List.forall_mem_cons.mpr ⟨⟨(RX2, TX2, 6), rfl, by decide, tf_X2_15⟩, List.forall_mem_cons.mpr ⟨⟨(RX2, TX2, 6), rfl, by decide, tf_X2_18⟩, List.forall_mem_cons.mpr ⟨⟨(RX2, TX2, 6), rfl, by decide, tf_X2_21⟩, fun _ h => absurd h List.not_mem_nil⟩⟩⟩⟩, fun _ h => absurd h List.not_mem_nil, fun _ h => absurd h List.not_mem_nil, fun _ h => absurd h List.not_mem_nil, List.forall_mem_cons.mpr ⟨Or.inl ⟨rfl, tj_X2_3⟩, fun _ h => absurd h List.not_mem_nil⟩⟩
set_option maxRecDepth 100000 in
theorem tw_X2_init_code : Jvm.Cond.code yX2_init cX2_init 1 none ∈ tb_GT := tb_mem 140 (rfl) rfl
theorem tw_X2_init_inst : Jvm.Cond.instanceMethod yX2_init ∈ tb_GT := tb_mem 139 (by decide +kernel) rfl
theorem tY_X2_init : mx_okY tb_cl tb_GT tm_X2_init := ⟨by decide +kernel, rfl, tw_X2_init_code, ti_X2, by decide +kernel, by decide +kernel, by decide +kernel, by decide, fun h => absurd h (by decide), fun h => absurd h (by decide), fun _ => ⟨tw_X2_init_inst, rfl, rfl, ⟨(RX2, TX2, 6), rfl, rfl⟩⟩⟩
theorem tf_X2_24 : Jvm.Cond.fieldLink RX2 24 "PackDisk$Gaps" "size" "I" ∈ tb_GT := tb_mem 146 (by decide +kernel) rfl
theorem tL_X2_note : mx_okL tb_cl tb_GT tb_NW tb_MT tm_X2_note := ⟨List.forall_mem_cons.mpr ⟨⟨(RX2, TX2, 6), rfl, by decide, tf_X2_24⟩, List.forall_mem_cons.mpr ⟨⟨(RX2, TX2, 6), rfl, by decide, tf_X2_9⟩, List.forall_mem_cons.mpr ⟨⟨(RX2, TX2, 6), rfl, by decide, tf_X2_15⟩, List.forall_mem_cons.mpr ⟨⟨(RX2, TX2, 6), rfl, by decide, tf_X2_18⟩, fun _ h => absurd h List.not_mem_nil⟩⟩⟩⟩, fun _ h => absurd h List.not_mem_nil, fun _ h => absurd h List.not_mem_nil, fun _ h => absurd h List.not_mem_nil, fun _ h => absurd h List.not_mem_nil⟩
set_option maxRecDepth 100000 in
theorem tw_X2_note_code : Jvm.Cond.code yX2_note cX2_note 4 none ∈ tb_GT := tb_mem 444 (rfl) rfl
theorem tw_X2_note_inst : Jvm.Cond.instanceMethod yX2_note ∈ tb_GT := tb_mem 442 (by decide +kernel) rfl
theorem tw_X2_note_sel : Jvm.Cond.selects RX2 yX2_note yX2_note ∈ tb_GT := tb_mem 443 (by decide +kernel) rfl
theorem tY_X2_note : mx_okY tb_cl tb_GT tm_X2_note := ⟨by decide +kernel, rfl, tw_X2_note_code, ti_X2, by decide +kernel, by decide +kernel, by decide +kernel, by decide, fun h => absurd h (by decide), fun _ => ⟨tw_X2_note_inst, tw_X2_note_sel, ⟨(RX2, TX2, 6), rfl, rfl⟩⟩, fun h => absurd h (by decide)⟩
theorem tL_X2_sectorOf : mx_okL tb_cl tb_GT tb_NW tb_MT tm_X2_sectorOf := ⟨List.forall_mem_cons.mpr ⟨⟨(RX2, TX2, 6), rfl, by decide, tf_X2_24⟩, List.forall_mem_cons.mpr ⟨⟨(RX2, TX2, 6), rfl, by decide, tf_X2_9⟩, fun _ h => absurd h List.not_mem_nil⟩⟩, fun _ h => absurd h List.not_mem_nil, fun _ h => absurd h List.not_mem_nil, fun _ h => absurd h List.not_mem_nil, fun _ h => absurd h List.not_mem_nil⟩
set_option maxRecDepth 100000 in
theorem tw_X2_sectorOf_code : Jvm.Cond.code yX2_sectorOf cX2_sectorOf 2 (some .int) ∈ tb_GT := tb_mem 480 (rfl) rfl
theorem tw_X2_sectorOf_inst : Jvm.Cond.instanceMethod yX2_sectorOf ∈ tb_GT := tb_mem 478 (by decide +kernel) rfl
theorem tw_X2_sectorOf_sel : Jvm.Cond.selects RX2 yX2_sectorOf yX2_sectorOf ∈ tb_GT := tb_mem 479 (by decide +kernel) rfl
theorem tY_X2_sectorOf : mx_okY tb_cl tb_GT tm_X2_sectorOf := ⟨by decide +kernel, rfl, tw_X2_sectorOf_code, ti_X2, by decide +kernel, by decide +kernel, by decide +kernel, by decide, fun h => absurd h (by decide), fun _ => ⟨tw_X2_sectorOf_inst, tw_X2_sectorOf_sel, ⟨(RX2, TX2, 6), rfl, rfl⟩⟩, fun h => absurd h (by decide)⟩
theorem tL_X2_size : mx_okL tb_cl tb_GT tb_NW tb_MT tm_X2_size := ⟨List.forall_mem_cons.mpr ⟨⟨(RX2, TX2, 6), rfl, by decide, tf_X2_24⟩, fun _ h => absurd h List.not_mem_nil⟩, fun _ h => absurd h List.not_mem_nil, fun _ h => absurd h List.not_mem_nil, fun _ h => absurd h List.not_mem_nil, fun _ h => absurd h List.not_mem_nil⟩
set_option maxRecDepth 100000 in
theorem tw_X2_size_code : Jvm.Cond.code yX2_size cX2_size 1 (some .int) ∈ tb_GT := tb_mem 448 (rfl) rfl
theorem tw_X2_size_inst : Jvm.Cond.instanceMethod yX2_size ∈ tb_GT := tb_mem 446 (by decide +kernel) rfl
theorem tw_X2_size_sel : Jvm.Cond.selects RX2 yX2_size yX2_size ∈ tb_GT := tb_mem 447 (by decide +kernel) rfl
theorem tY_X2_size : mx_okY tb_cl tb_GT tm_X2_size := ⟨by decide +kernel, rfl, tw_X2_size_code, ti_X2, by decide +kernel, by decide +kernel, by decide +kernel, by decide, fun h => absurd h (by decide), fun _ => ⟨tw_X2_size_inst, tw_X2_size_sel, ⟨(RX2, TX2, 6), rfl, rfl⟩⟩, fun h => absurd h (by decide)⟩
theorem tf_X3_22 : Jvm.Cond.fieldLink RX3 22 "PackDisk$Journal" "size" "I" ∈ tb_GT := tb_mem 116 (by decide +kernel) rfl
theorem tL_X3_clear : mx_okL tb_cl tb_GT tb_NW tb_MT tm_X3_clear := ⟨List.forall_mem_cons.mpr ⟨⟨(RX3, TX3, 4), rfl, by decide, tf_X3_22⟩, fun _ h => absurd h List.not_mem_nil⟩, fun _ h => absurd h List.not_mem_nil, fun _ h => absurd h List.not_mem_nil, fun _ h => absurd h List.not_mem_nil, fun _ h => absurd h List.not_mem_nil⟩
set_option maxRecDepth 100000 in
theorem tw_X3_clear_code : Jvm.Cond.code yX3_clear cX3_clear 1 none ∈ tb_GT := tb_mem 371 (rfl) rfl
theorem ti_X3 : Jvm.Cond.initialized RX3 ∈ tb_GT := tb_mem 59 (by decide +kernel) rfl
theorem tw_X3_clear_inst : Jvm.Cond.instanceMethod yX3_clear ∈ tb_GT := tb_mem 369 (by decide +kernel) rfl
theorem tw_X3_clear_sel : Jvm.Cond.selects RX3 yX3_clear yX3_clear ∈ tb_GT := tb_mem 370 (by decide +kernel) rfl
theorem tY_X3_clear : mx_okY tb_cl tb_GT tm_X3_clear := ⟨by decide +kernel, rfl, tw_X3_clear_code, ti_X3, by decide +kernel, by decide +kernel, by decide +kernel, by decide, fun h => absurd h (by decide), fun _ => ⟨tw_X3_clear_inst, tw_X3_clear_sel, ⟨(RX3, TX3, 4), rfl, rfl⟩⟩, fun h => absurd h (by decide)⟩
theorem tf_X3_9 : Jvm.Cond.fieldLink RX3 9 "PackDisk$Journal" "written" "[I" ∈ tb_GT := tb_mem 113 (by decide +kernel) rfl
theorem tf_X3_15 : Jvm.Cond.fieldLink RX3 15 "PackDisk$Journal" "cells" "[I" ∈ tb_GT := tb_mem 114 (by decide +kernel) rfl
theorem tf_X3_18 : Jvm.Cond.fieldLink RX3 18 "PackDisk$Journal" "lost" "[Z" ∈ tb_GT := tb_mem 115 (by decide +kernel) rfl
theorem tj_X3_3 : Jvm.Cond.methodLink RX3 3 Lib.objectInit ∈ tb_GT := tb_mem 112 (by decide +kernel) rfl
theorem tL_X3_init : mx_okL tb_cl tb_GT tb_NW tb_MT tm_X3_init := ⟨List.forall_mem_cons.mpr ⟨⟨(RX3, TX3, 4), rfl, by decide, tf_X3_9⟩, List.forall_mem_cons.mpr ⟨⟨(RX3, TX3, 4), rfl, by decide, tf_X3_15⟩, List.forall_mem_cons.mpr ⟨⟨(RX3, TX3, 4), rfl, by decide, tf_X3_18⟩, fun _ h => absurd h List.not_mem_nil⟩⟩⟩, fun _ h => absurd h List.not_mem_nil, fun _ h => absurd h List.not_mem_nil, fun _ h => absurd h List.not_mem_nil, List.forall_mem_cons.mpr ⟨Or.inl ⟨rfl, tj_X3_3⟩, fun _ h => absurd h List.not_mem_nil⟩⟩
set_option maxRecDepth 100000 in
theorem tw_X3_init_code : Jvm.Cond.code yX3_init cX3_init 1 none ∈ tb_GT := tb_mem 111 (rfl) rfl
theorem tw_X3_init_inst : Jvm.Cond.instanceMethod yX3_init ∈ tb_GT := tb_mem 110 (by decide +kernel) rfl
theorem tY_X3_init : mx_okY tb_cl tb_GT tm_X3_init := ⟨by decide +kernel, rfl, tw_X3_init_code, ti_X3, by decide +kernel, by decide +kernel, by decide +kernel, by decide, fun h => absurd h (by decide), fun h => absurd h (by decide), fun _ => ⟨tw_X3_init_inst, rfl, rfl, ⟨(RX3, TX3, 4), rfl, rfl⟩⟩⟩
theorem tL_X3_size : mx_okL tb_cl tb_GT tb_NW tb_MT tm_X3_size := ⟨List.forall_mem_cons.mpr ⟨⟨(RX3, TX3, 4), rfl, by decide, tf_X3_22⟩, fun _ h => absurd h List.not_mem_nil⟩, fun _ h => absurd h List.not_mem_nil, fun _ h => absurd h List.not_mem_nil, fun _ h => absurd h List.not_mem_nil, fun _ h => absurd h List.not_mem_nil⟩
set_option maxRecDepth 100000 in
theorem tw_X3_size_code : Jvm.Cond.code yX3_size cX3_size 1 (some .int) ∈ tb_GT := tb_mem 379 (rfl) rfl
theorem tw_X3_size_inst : Jvm.Cond.instanceMethod yX3_size ∈ tb_GT := tb_mem 377 (by decide +kernel) rfl
theorem tw_X3_size_sel : Jvm.Cond.selects RX3 yX3_size yX3_size ∈ tb_GT := tb_mem 378 (by decide +kernel) rfl
theorem tY_X3_size : mx_okY tb_cl tb_GT tm_X3_size := ⟨by decide +kernel, rfl, tw_X3_size_code, ti_X3, by decide +kernel, by decide +kernel, by decide +kernel, by decide, fun h => absurd h (by decide), fun _ => ⟨tw_X3_size_inst, tw_X3_size_sel, ⟨(RX3, TX3, 4), rfl, rfl⟩⟩, fun h => absurd h (by decide)⟩
theorem tf_X4_18 : Jvm.Cond.fieldLink RX4 18 "PackDisk$Sectors" "count" "I" ∈ tb_GT := tb_mem 92 (by decide +kernel) rfl
theorem tf_X4_24 : Jvm.Cond.fieldLink RX4 24 "PackDisk$Sectors" "cells" "[I" ∈ tb_GT := tb_mem 93 (by decide +kernel) rfl
theorem tL_X4_cell : mx_okL tb_cl tb_GT tb_NW tb_MT tm_X4_cell := ⟨List.forall_mem_cons.mpr ⟨⟨(RX4, TX4, 4), rfl, by decide, tf_X4_18⟩, List.forall_mem_cons.mpr ⟨⟨(RX4, TX4, 4), rfl, by decide, tf_X4_24⟩, fun _ h => absurd h List.not_mem_nil⟩⟩, fun _ h => absurd h List.not_mem_nil, fun _ h => absurd h List.not_mem_nil, fun _ h => absurd h List.not_mem_nil, fun _ h => absurd h List.not_mem_nil⟩
set_option maxRecDepth 100000 in
theorem tw_X4_cell_code : Jvm.Cond.code yX4_cell cX4_cell 4 (some .int) ∈ tb_GT := tb_mem 275 (rfl) rfl
theorem ti_X4 : Jvm.Cond.initialized RX4 ∈ tb_GT := tb_mem 57 (by decide +kernel) rfl
theorem tw_X4_cell_inst : Jvm.Cond.instanceMethod yX4_cell ∈ tb_GT := tb_mem 273 (by decide +kernel) rfl
theorem tw_X4_cell_sel : Jvm.Cond.selects RX4 yX4_cell yX4_cell ∈ tb_GT := tb_mem 274 (by decide +kernel) rfl
theorem tY_X4_cell : mx_okY tb_cl tb_GT tm_X4_cell := ⟨by decide +kernel, rfl, tw_X4_cell_code, ti_X4, by decide +kernel, by decide +kernel, by decide +kernel, by decide, fun h => absurd h (by decide), fun _ => ⟨tw_X4_cell_inst, tw_X4_cell_sel, ⟨(RX4, TX4, 4), rfl, rfl⟩⟩, fun h => absurd h (by decide)⟩
theorem tL_X4_count : mx_okL tb_cl tb_GT tb_NW tb_MT tm_X4_count := ⟨List.forall_mem_cons.mpr ⟨⟨(RX4, TX4, 4), rfl, by decide, tf_X4_18⟩, fun _ h => absurd h List.not_mem_nil⟩, fun _ h => absurd h List.not_mem_nil, fun _ h => absurd h List.not_mem_nil, fun _ h => absurd h List.not_mem_nil, fun _ h => absurd h List.not_mem_nil⟩
set_option maxRecDepth 100000 in
theorem tw_X4_count_code : Jvm.Cond.code yX4_count cX4_count 1 (some .int) ∈ tb_GT := tb_mem 219 (rfl) rfl
theorem tw_X4_count_inst : Jvm.Cond.instanceMethod yX4_count ∈ tb_GT := tb_mem 217 (by decide +kernel) rfl
theorem tw_X4_count_sel : Jvm.Cond.selects RX4 yX4_count yX4_count ∈ tb_GT := tb_mem 218 (by decide +kernel) rfl
theorem tY_X4_count : mx_okY tb_cl tb_GT tm_X4_count := ⟨by decide +kernel, rfl, tw_X4_count_code, ti_X4, by decide +kernel, by decide +kernel, by decide +kernel, by decide, fun h => absurd h (by decide), fun _ => ⟨tw_X4_count_inst, tw_X4_count_sel, ⟨(RX4, TX4, 4), rfl, rfl⟩⟩, fun h => absurd h (by decide)⟩
theorem tf_X4_28 : Jvm.Cond.fieldLink RX4 28 "PackDisk$Sectors" "lost" "[Z" ∈ tb_GT := tb_mem 94 (by decide +kernel) rfl
theorem tL_X4_countLost : mx_okL tb_cl tb_GT tb_NW tb_MT tm_X4_countLost := ⟨List.forall_mem_cons.mpr ⟨⟨(RX4, TX4, 4), rfl, by decide, tf_X4_18⟩, List.forall_mem_cons.mpr ⟨⟨(RX4, TX4, 4), rfl, by decide, tf_X4_28⟩, fun _ h => absurd h List.not_mem_nil⟩⟩, fun _ h => absurd h List.not_mem_nil, fun _ h => absurd h List.not_mem_nil, fun _ h => absurd h List.not_mem_nil, fun _ h => absurd h List.not_mem_nil⟩
set_option maxRecDepth 100000 in
theorem tw_X4_countLost_code : Jvm.Cond.code yX4_countLost cX4_countLost 3 (some .int) ∈ tb_GT := tb_mem 526 (rfl) rfl
theorem tw_X4_countLost_inst : Jvm.Cond.instanceMethod yX4_countLost ∈ tb_GT := tb_mem 524 (by decide +kernel) rfl
theorem tw_X4_countLost_sel : Jvm.Cond.selects RX4 yX4_countLost yX4_countLost ∈ tb_GT := tb_mem 525 (by decide +kernel) rfl
theorem tY_X4_countLost : mx_okY tb_cl tb_GT tm_X4_countLost := ⟨by decide +kernel, rfl, tw_X4_countLost_code, ti_X4, by decide +kernel, by decide +kernel, by decide +kernel, by decide, fun h => absurd h (by decide), fun _ => ⟨tw_X4_countLost_inst, tw_X4_countLost_sel, ⟨(RX4, TX4, 4), rfl, rfl⟩⟩, fun h => absurd h (by decide)⟩
theorem tL_X4_has : mx_okL tb_cl tb_GT tb_NW tb_MT tm_X4_has := ⟨List.forall_mem_cons.mpr ⟨⟨(RX4, TX4, 4), rfl, by decide, tf_X4_18⟩, fun _ h => absurd h List.not_mem_nil⟩, fun _ h => absurd h List.not_mem_nil, fun _ h => absurd h List.not_mem_nil, fun _ h => absurd h List.not_mem_nil, fun _ h => absurd h List.not_mem_nil⟩
set_option maxRecDepth 100000 in
theorem tw_X4_has_code : Jvm.Cond.code yX4_has cX4_has 2 (some .boolean) ∈ tb_GT := tb_mem 267 (rfl) rfl
theorem tw_X4_has_inst : Jvm.Cond.instanceMethod yX4_has ∈ tb_GT := tb_mem 265 (by decide +kernel) rfl
theorem tw_X4_has_sel : Jvm.Cond.selects RX4 yX4_has yX4_has ∈ tb_GT := tb_mem 266 (by decide +kernel) rfl
theorem tY_X4_has : mx_okY tb_cl tb_GT tm_X4_has := ⟨by decide +kernel, rfl, tw_X4_has_code, ti_X4, by decide +kernel, by decide +kernel, by decide +kernel, by decide, fun h => absurd h (by decide), fun _ => ⟨tw_X4_has_inst, tw_X4_has_sel, ⟨(RX4, TX4, 4), rfl, rfl⟩⟩, fun h => absurd h (by decide)⟩
theorem tL_X4_hasCell : mx_okL tb_cl tb_GT tb_NW tb_MT tm_X4_hasCell := ⟨List.forall_mem_cons.mpr ⟨⟨(RX4, TX4, 4), rfl, by decide, tf_X4_18⟩, fun _ h => absurd h List.not_mem_nil⟩, fun _ h => absurd h List.not_mem_nil, fun _ h => absurd h List.not_mem_nil, fun _ h => absurd h List.not_mem_nil, fun _ h => absurd h List.not_mem_nil⟩
set_option maxRecDepth 100000 in
theorem tw_X4_hasCell_code : Jvm.Cond.code yX4_hasCell cX4_hasCell 3 (some .boolean) ∈ tb_GT := tb_mem 395 (rfl) rfl
theorem tw_X4_hasCell_inst : Jvm.Cond.instanceMethod yX4_hasCell ∈ tb_GT := tb_mem 393 (by decide +kernel) rfl
theorem tw_X4_hasCell_sel : Jvm.Cond.selects RX4 yX4_hasCell yX4_hasCell ∈ tb_GT := tb_mem 394 (by decide +kernel) rfl
theorem tY_X4_hasCell : mx_okY tb_cl tb_GT tm_X4_hasCell := ⟨by decide +kernel, rfl, tw_X4_hasCell_code, ti_X4, by decide +kernel, by decide +kernel, by decide +kernel, by decide, fun h => absurd h (by decide), fun _ => ⟨tw_X4_hasCell_inst, tw_X4_hasCell_sel, ⟨(RX4, TX4, 4), rfl, rfl⟩⟩, fun h => absurd h (by decide)⟩
theorem tf_X4_32 : Jvm.Cond.fieldLink RX4 32 "PackDisk$Sectors" "sorts" "[I" ∈ tb_GT := tb_mem 95 (by decide +kernel) rfl
theorem tj_X4_3 : Jvm.Cond.methodLink RX4 3 Lib.objectInit ∈ tb_GT := tb_mem 85 (by decide +kernel) rfl
theorem tj_X4_9 : Jvm.Cond.methodLink RX4 9 Lib.Math.min.name ∈ tb_GT := tb_mem 86 (by decide +kernel) rfl
theorem tj_X4_15 : Jvm.Cond.methodLink RX4 15 Lib.Math.max.name ∈ tb_GT := tb_mem 89 (by decide +kernel) rfl
theorem tL_X4_init : mx_okL tb_cl tb_GT tb_NW tb_MT tm_X4_init := ⟨List.forall_mem_cons.mpr ⟨⟨(RX4, TX4, 4), rfl, by decide, tf_X4_18⟩, List.forall_mem_cons.mpr ⟨⟨(RX4, TX4, 4), rfl, by decide, tf_X4_24⟩, List.forall_mem_cons.mpr ⟨⟨(RX4, TX4, 4), rfl, by decide, tf_X4_28⟩, List.forall_mem_cons.mpr ⟨⟨(RX4, TX4, 4), rfl, by decide, tf_X4_32⟩, fun _ h => absurd h List.not_mem_nil⟩⟩⟩⟩, fun _ h => absurd h List.not_mem_nil, fun _ h => absurd h List.not_mem_nil, fun _ h => absurd h List.not_mem_nil, List.forall_mem_cons.mpr ⟨Or.inl ⟨rfl, tj_X4_3⟩, List.forall_mem_cons.mpr ⟨Or.inr (Or.inr (Or.inl ⟨rfl, tj_X4_9⟩)), List.forall_mem_cons.mpr ⟨Or.inr (Or.inl ⟨rfl, tj_X4_15⟩), fun _ h => absurd h List.not_mem_nil⟩⟩⟩⟩
set_option maxRecDepth 100000 in
theorem tw_X4_init_code : Jvm.Cond.code yX4_init cX4_init 2 none ∈ tb_GT := tb_mem 84 (rfl) rfl
theorem tw_X4_init_inst : Jvm.Cond.instanceMethod yX4_init ∈ tb_GT := tb_mem 83 (by decide +kernel) rfl
theorem tY_X4_init : mx_okY tb_cl tb_GT tm_X4_init := ⟨by decide +kernel, rfl, tw_X4_init_code, ti_X4, by decide +kernel, by decide +kernel, by decide +kernel, by decide, fun h => absurd h (by decide), fun h => absurd h (by decide), fun _ => ⟨tw_X4_init_inst, rfl, rfl, ⟨(RX4, TX4, 4), rfl, rfl⟩⟩⟩
theorem tj_X5_215 : Jvm.Cond.methodLink RX5 215 Lib.Math.min.name ∈ tb_GT := tb_mem 234 (by decide +kernel) rfl
theorem tL_X5_blocksForLength : mx_okL tb_cl tb_GT tb_NW tb_MT tm_X5_blocksForLength := ⟨fun _ h => absurd h List.not_mem_nil, fun _ h => absurd h List.not_mem_nil, fun _ h => absurd h List.not_mem_nil, fun _ h => absurd h List.not_mem_nil, List.forall_mem_cons.mpr ⟨Or.inr (Or.inr (Or.inl ⟨rfl, tj_X5_215⟩)), fun _ h => absurd h List.not_mem_nil⟩⟩
set_option maxRecDepth 100000 in
theorem tw_X5_blocksForLength_code : Jvm.Cond.code yX5_blocksForLength cX5_blocksForLength 1 (some .int) ∈ tb_GT := tb_mem 233 (rfl) rfl
theorem ti_X5 : Jvm.Cond.initialized RX5 ∈ tb_GT := tb_mem 56 (by decide +kernel) rfl
theorem tw_X5_blocksForLength_static : Jvm.Cond.static yX5_blocksForLength ∈ tb_GT := tb_mem 232 (by decide +kernel) rfl
theorem tY_X5_blocksForLength : mx_okY tb_cl tb_GT tm_X5_blocksForLength := ⟨by decide +kernel, rfl, tw_X5_blocksForLength_code, ti_X5, by decide +kernel, by decide +kernel, by decide +kernel, by decide, fun _ => tw_X5_blocksForLength_static, fun h => absurd h (by decide), fun h => absurd h (by decide)⟩
theorem tL_X5_headSector : mx_okL tb_cl tb_GT tb_NW tb_MT tm_X5_headSector := ⟨fun _ h => absurd h List.not_mem_nil, fun _ h => absurd h List.not_mem_nil, fun _ h => absurd h List.not_mem_nil, fun _ h => absurd h List.not_mem_nil, fun _ h => absurd h List.not_mem_nil⟩
set_option maxRecDepth 100000 in
theorem tw_X5_headSector_code : Jvm.Cond.code yX5_headSector cX5_headSector 1 (some .int) ∈ tb_GT := tb_mem 367 (rfl) rfl
theorem tw_X5_headSector_static : Jvm.Cond.static yX5_headSector ∈ tb_GT := tb_mem 366 (by decide +kernel) rfl
theorem tY_X5_headSector : mx_okY tb_cl tb_GT tm_X5_headSector := ⟨by decide +kernel, rfl, tw_X5_headSector_code, ti_X5, by decide +kernel, by decide +kernel, by decide +kernel, by decide, fun _ => tw_X5_headSector_static, fun h => absurd h (by decide), fun h => absurd h (by decide)⟩
theorem tf_X5_50 : Jvm.Cond.fieldLink RX5 50 "PackDisk" "next" "I" ∈ tb_GT := tb_mem 168 (by decide +kernel) rfl
theorem tL_X5_isInLog : mx_okL tb_cl tb_GT tb_NW tb_MT tm_X5_isInLog := ⟨List.forall_mem_cons.mpr ⟨⟨(RX5, TX5, 14), rfl, by decide, tf_X5_50⟩, fun _ h => absurd h List.not_mem_nil⟩, fun _ h => absurd h List.not_mem_nil, fun _ h => absurd h List.not_mem_nil, fun _ h => absurd h List.not_mem_nil, fun _ h => absurd h List.not_mem_nil⟩
set_option maxRecDepth 100000 in
theorem tw_X5_isInLog_code : Jvm.Cond.code yX5_isInLog cX5_isInLog 2 (some .boolean) ∈ tb_GT := tb_mem 259 (rfl) rfl
theorem tw_X5_isInLog_inst : Jvm.Cond.instanceMethod yX5_isInLog ∈ tb_GT := tb_mem 258 (by decide +kernel) rfl
theorem tw_X5_isInLog_sel : Jvm.Cond.selects RX5 yX5_isInLog yX5_isInLog ∈ tb_GT := tb_mem 5 (by decide +kernel) rfl
theorem tY_X5_isInLog : mx_okY tb_cl tb_GT tm_X5_isInLog := ⟨by decide +kernel, rfl, tw_X5_isInLog_code, ti_X5, by decide +kernel, by decide +kernel, by decide +kernel, by decide, fun h => absurd h (by decide), fun _ => ⟨tw_X5_isInLog_inst, tw_X5_isInLog_sel, ⟨(RX5, TX5, 14), rfl, rfl⟩⟩, fun h => absurd h (by decide)⟩
theorem tf_X5_54 : Jvm.Cond.fieldLink RX5 54 "PackDisk" "openLength" "I" ∈ tb_GT := tb_mem 172 (by decide +kernel) rfl
theorem tL_X5_isOpen : mx_okL tb_cl tb_GT tb_NW tb_MT tm_X5_isOpen := ⟨List.forall_mem_cons.mpr ⟨⟨(RX5, TX5, 14), rfl, by decide, tf_X5_54⟩, fun _ h => absurd h List.not_mem_nil⟩, fun _ h => absurd h List.not_mem_nil, fun _ h => absurd h List.not_mem_nil, fun _ h => absurd h List.not_mem_nil, fun _ h => absurd h List.not_mem_nil⟩
set_option maxRecDepth 100000 in
theorem tw_X5_isOpen_code : Jvm.Cond.code yX5_isOpen cX5_isOpen 1 (some .boolean) ∈ tb_GT := tb_mem 211 (rfl) rfl
theorem tw_X5_isOpen_inst : Jvm.Cond.instanceMethod yX5_isOpen ∈ tb_GT := tb_mem 210 (by decide +kernel) rfl
theorem tw_X5_isOpen_sel : Jvm.Cond.selects RX5 yX5_isOpen yX5_isOpen ∈ tb_GT := tb_mem 0 (by decide +kernel) rfl
theorem tY_X5_isOpen : mx_okY tb_cl tb_GT tm_X5_isOpen := ⟨by decide +kernel, rfl, tw_X5_isOpen_code, ti_X5, by decide +kernel, by decide +kernel, by decide +kernel, by decide, fun h => absurd h (by decide), fun _ => ⟨tw_X5_isOpen_inst, tw_X5_isOpen_sel, ⟨(RX5, TX5, 14), rfl, rfl⟩⟩, fun h => absurd h (by decide)⟩
theorem tf_X5_65 : Jvm.Cond.fieldLink RX5 65 "PackDisk" "rows" "I" ∈ tb_GT := tb_mem 169 (by decide +kernel) rfl
theorem tL_X5_isRowNumber : mx_okL tb_cl tb_GT tb_NW tb_MT tm_X5_isRowNumber := ⟨List.forall_mem_cons.mpr ⟨⟨(RX5, TX5, 14), rfl, by decide, tf_X5_65⟩, fun _ h => absurd h List.not_mem_nil⟩, fun _ h => absurd h List.not_mem_nil, fun _ h => absurd h List.not_mem_nil, fun _ h => absurd h List.not_mem_nil, fun _ h => absurd h List.not_mem_nil⟩
set_option maxRecDepth 100000 in
theorem tw_X5_isRowNumber_code : Jvm.Cond.code yX5_isRowNumber cX5_isRowNumber 2 (some .boolean) ∈ tb_GT := tb_mem 324 (rfl) rfl
theorem tw_X5_isRowNumber_inst : Jvm.Cond.instanceMethod yX5_isRowNumber ∈ tb_GT := tb_mem 323 (by decide +kernel) rfl
theorem tw_X5_isRowNumber_sel : Jvm.Cond.selects RX5 yX5_isRowNumber yX5_isRowNumber ∈ tb_GT := tb_mem 8 (by decide +kernel) rfl
theorem tY_X5_isRowNumber : mx_okY tb_cl tb_GT tm_X5_isRowNumber := ⟨by decide +kernel, rfl, tw_X5_isRowNumber_code, ti_X5, by decide +kernel, by decide +kernel, by decide +kernel, by decide, fun h => absurd h (by decide), fun _ => ⟨tw_X5_isRowNumber_inst, tw_X5_isRowNumber_sel, ⟨(RX5, TX5, 14), rfl, rfl⟩⟩, fun h => absurd h (by decide)⟩
theorem tk_X5_274 : Jvm.Cond.constant RX5 274 (461845907) ∈ tb_GT := tb_mem 292 (by decide +kernel) rfl
theorem tL_X5_sumOf : mx_okL tb_cl tb_GT tb_NW tb_MT tm_X5_sumOf := ⟨fun _ h => absurd h List.not_mem_nil, fun _ h => absurd h List.not_mem_nil, List.forall_mem_cons.mpr ⟨tk_X5_274, fun _ h => absurd h List.not_mem_nil⟩, fun _ h => absurd h List.not_mem_nil, fun _ h => absurd h List.not_mem_nil⟩
set_option maxRecDepth 100000 in
theorem tw_X5_sumOf_code : Jvm.Cond.code yX5_sumOf cX5_sumOf 5 (some .int) ∈ tb_GT := tb_mem 291 (rfl) rfl
theorem tw_X5_sumOf_static : Jvm.Cond.static yX5_sumOf ∈ tb_GT := tb_mem 290 (by decide +kernel) rfl
theorem tY_X5_sumOf : mx_okY tb_cl tb_GT tm_X5_sumOf := ⟨by decide +kernel, rfl, tw_X5_sumOf_code, ti_X5, by decide +kernel, by decide +kernel, by decide +kernel, by decide, fun _ => tw_X5_sumOf_static, fun h => absurd h (by decide), fun h => absurd h (by decide)⟩
theorem tf_X6_40 : Jvm.Cond.fieldLink RX6 40 "PackDiskModel" "draft" "[I" ∈ tb_GT := tb_mem 637 (by decide +kernel) rfl
theorem tL_X6_begin : mx_okL tb_cl tb_GT tb_NW tb_MT tm_X6_begin := ⟨List.forall_mem_cons.mpr ⟨⟨(RX6, TX6, 27), rfl, by decide, tf_X6_40⟩, fun _ h => absurd h List.not_mem_nil⟩, fun _ h => absurd h List.not_mem_nil, fun _ h => absurd h List.not_mem_nil, fun _ h => absurd h List.not_mem_nil, fun _ h => absurd h List.not_mem_nil⟩
set_option maxRecDepth 100000 in
theorem tw_X6_begin_code : Jvm.Cond.code yX6_begin cX6_begin 6 none ∈ tb_GT := tb_mem 725 (rfl) rfl
theorem ti_X6 : Jvm.Cond.initialized RX6 ∈ tb_GT := tb_mem 62 (by decide +kernel) rfl
theorem tw_X6_begin_inst : Jvm.Cond.instanceMethod yX6_begin ∈ tb_GT := tb_mem 724 (by decide +kernel) rfl
theorem tw_X6_begin_sel : Jvm.Cond.selects RX6 yX6_begin yX6_begin ∈ tb_GT := tb_mem 31 (by decide +kernel) rfl
theorem tY_X6_begin : mx_okY tb_cl tb_GT tm_X6_begin := ⟨by decide +kernel, rfl, tw_X6_begin_code, ti_X6, by decide +kernel, by decide +kernel, by decide +kernel, by decide, fun h => absurd h (by decide), fun _ => ⟨tw_X6_begin_inst, tw_X6_begin_sel, ⟨(RX6, TX6, 27), rfl, rfl⟩⟩, fun h => absurd h (by decide)⟩
theorem tf_X6_7 : Jvm.Cond.fieldLink RX6 7 "PackDiskModel" "octets" "[I" ∈ tb_GT := tb_mem 622 (by decide +kernel) rfl
theorem tL_X6_blockAt : mx_okL tb_cl tb_GT tb_NW tb_MT tm_X6_blockAt := ⟨List.forall_mem_cons.mpr ⟨⟨(RX6, TX6, 27), rfl, by decide, tf_X6_7⟩, fun _ h => absurd h List.not_mem_nil⟩, fun _ h => absurd h List.not_mem_nil, fun _ h => absurd h List.not_mem_nil, fun _ h => absurd h List.not_mem_nil, fun _ h => absurd h List.not_mem_nil⟩
set_option maxRecDepth 100000 in
theorem tw_X6_blockAt_code : Jvm.Cond.code yX6_blockAt cX6_blockAt 3 (some .int) ∈ tb_GT := tb_mem 773 (rfl) rfl
theorem tw_X6_blockAt_inst : Jvm.Cond.instanceMethod yX6_blockAt ∈ tb_GT := tb_mem 772 (by decide +kernel) rfl
theorem tw_X6_blockAt_sel : Jvm.Cond.selects RX6 yX6_blockAt yX6_blockAt ∈ tb_GT := tb_mem 41 (by decide +kernel) rfl
theorem tY_X6_blockAt : mx_okY tb_cl tb_GT tm_X6_blockAt := ⟨by decide +kernel, rfl, tw_X6_blockAt_code, ti_X6, by decide +kernel, by decide +kernel, by decide +kernel, by decide, fun h => absurd h (by decide), fun _ => ⟨tw_X6_blockAt_inst, tw_X6_blockAt_sel, ⟨(RX6, TX6, 27), rfl, rfl⟩⟩, fun h => absurd h (by decide)⟩
theorem tL_X6_generationAt : mx_okL tb_cl tb_GT tb_NW tb_MT tm_X6_generationAt := ⟨List.forall_mem_cons.mpr ⟨⟨(RX6, TX6, 27), rfl, by decide, tf_X6_7⟩, fun _ h => absurd h List.not_mem_nil⟩, fun _ h => absurd h List.not_mem_nil, fun _ h => absurd h List.not_mem_nil, fun _ h => absurd h List.not_mem_nil, fun _ h => absurd h List.not_mem_nil⟩
set_option maxRecDepth 100000 in
theorem tw_X6_generationAt_code : Jvm.Cond.code yX6_generationAt cX6_generationAt 3 (some .int) ∈ tb_GT := tb_mem 814 (rfl) rfl
theorem tw_X6_generationAt_inst : Jvm.Cond.instanceMethod yX6_generationAt ∈ tb_GT := tb_mem 813 (by decide +kernel) rfl
theorem tw_X6_generationAt_sel : Jvm.Cond.selects RX6 yX6_generationAt yX6_generationAt ∈ tb_GT := tb_mem 46 (by decide +kernel) rfl
theorem tY_X6_generationAt : mx_okY tb_cl tb_GT tm_X6_generationAt := ⟨by decide +kernel, rfl, tw_X6_generationAt_code, ti_X6, by decide +kernel, by decide +kernel, by decide +kernel, by decide, fun h => absurd h (by decide), fun _ => ⟨tw_X6_generationAt_inst, tw_X6_generationAt_sel, ⟨(RX6, TX6, 27), rfl, rfl⟩⟩, fun h => absurd h (by decide)⟩
theorem tL_X6_in : mx_okL tb_cl tb_GT tb_NW tb_MT tm_X6_in := ⟨fun _ h => absurd h List.not_mem_nil, fun _ h => absurd h List.not_mem_nil, fun _ h => absurd h List.not_mem_nil, fun _ h => absurd h List.not_mem_nil, fun _ h => absurd h List.not_mem_nil⟩
set_option maxRecDepth 100000 in
theorem tw_X6_in_code : Jvm.Cond.code yX6_in cX6_in 3 (some .boolean) ∈ tb_GT := tb_mem 708 (rfl) rfl
theorem tw_X6_in_static : Jvm.Cond.static yX6_in ∈ tb_GT := tb_mem 707 (by decide +kernel) rfl
theorem tY_X6_in : mx_okY tb_cl tb_GT tm_X6_in := ⟨by decide +kernel, rfl, tw_X6_in_code, ti_X6, by decide +kernel, by decide +kernel, by decide +kernel, by decide, fun _ => tw_X6_in_static, fun h => absurd h (by decide), fun h => absurd h (by decide)⟩
theorem tf_X6_13 : Jvm.Cond.fieldLink RX6 13 "PackDiskModel" "isLost" "[Z" ∈ tb_GT := tb_mem 623 (by decide +kernel) rfl
theorem tf_X6_17 : Jvm.Cond.fieldLink RX6 17 "PackDiskModel" "isOn" "Z" ∈ tb_GT := tb_mem 624 (by decide +kernel) rfl
theorem tf_X6_21 : Jvm.Cond.fieldLink RX6 21 "PackDiskModel" "next" "I" ∈ tb_GT := tb_mem 625 (by decide +kernel) rfl
theorem tf_X6_25 : Jvm.Cond.fieldLink RX6 25 "PackDiskModel" "kind" "I" ∈ tb_GT := tb_mem 630 (by decide +kernel) rfl
theorem tf_X6_28 : Jvm.Cond.fieldLink RX6 28 "PackDiskModel" "open" "[I" ∈ tb_GT := tb_mem 632 (by decide +kernel) rfl
theorem tf_X6_31 : Jvm.Cond.fieldLink RX6 31 "PackDiskModel" "wroteAt" "[I" ∈ tb_GT := tb_mem 634 (by decide +kernel) rfl
theorem tf_X6_34 : Jvm.Cond.fieldLink RX6 34 "PackDiskModel" "wasThere" "[I" ∈ tb_GT := tb_mem 635 (by decide +kernel) rfl
theorem tf_X6_37 : Jvm.Cond.fieldLink RX6 37 "PackDiskModel" "wasLost" "[Z" ∈ tb_GT := tb_mem 636 (by decide +kernel) rfl
theorem tf_X6_43 : Jvm.Cond.fieldLink RX6 43 "PackDiskModel" "at4" "[I" ∈ tb_GT := tb_mem 638 (by decide +kernel) rfl
theorem tf_X6_46 : Jvm.Cond.fieldLink RX6 46 "PackDiskModel" "unknown" "[I" ∈ tb_GT := tb_mem 640 (by decide +kernel) rfl
theorem tf_X6_49 : Jvm.Cond.fieldLink RX6 49 "PackDiskModel" "inP" "[I" ∈ tb_GT := tb_mem 641 (by decide +kernel) rfl
theorem tf_X6_52 : Jvm.Cond.fieldLink RX6 52 "PackDiskModel" "inQ" "[I" ∈ tb_GT := tb_mem 642 (by decide +kernel) rfl
theorem tf_X6_55 : Jvm.Cond.fieldLink RX6 55 "PackDiskModel" "restP" "[I" ∈ tb_GT := tb_mem 643 (by decide +kernel) rfl
theorem tf_X6_58 : Jvm.Cond.fieldLink RX6 58 "PackDiskModel" "restQ" "[I" ∈ tb_GT := tb_mem 644 (by decide +kernel) rfl
theorem tf_X6_61 : Jvm.Cond.fieldLink RX6 61 "PackDiskModel" "one" "[I" ∈ tb_GT := tb_mem 645 (by decide +kernel) rfl
theorem tf_X6_64 : Jvm.Cond.fieldLink RX6 64 "PackDiskModel" "two" "[I" ∈ tb_GT := tb_mem 646 (by decide +kernel) rfl
theorem tf_X6_67 : Jvm.Cond.fieldLink RX6 67 "PackDiskModel" "n" "I" ∈ tb_GT := tb_mem 621 (by decide +kernel) rfl
theorem tj_X6_1 : Jvm.Cond.methodLink RX6 1 Lib.objectInit ∈ tb_GT := tb_mem 619 (by decide +kernel) rfl
theorem tL_X6_init : mx_okL tb_cl tb_GT tb_NW tb_MT tm_X6_init := ⟨List.forall_mem_cons.mpr ⟨⟨(RX6, TX6, 27), rfl, by decide, tf_X6_7⟩, List.forall_mem_cons.mpr ⟨⟨(RX6, TX6, 27), rfl, by decide, tf_X6_13⟩, List.forall_mem_cons.mpr ⟨⟨(RX6, TX6, 27), rfl, by decide, tf_X6_17⟩, List.forall_mem_cons.mpr ⟨⟨(RX6, TX6, 27), rfl, by decide, tf_X6_21⟩, List.forall_mem_cons.mpr ⟨⟨(RX6, TX6, 27), rfl, by decide, tf_X6_25⟩, List.forall_mem_cons.mpr ⟨⟨(RX6, TX6, 27), rfl, by decide, tf_X6_28⟩, List.forall_mem_cons.mpr ⟨⟨(RX6, TX6, 27), rfl, by decide, tf_X6_31⟩, List.forall_mem_cons.mpr ⟨⟨(RX6, TX6, 27), rfl, by decide, tf_X6_34⟩, List.forall_mem_cons.mpr ⟨⟨(RX6, TX6, 27), rfl, by decide, tf_X6_37⟩, List.forall_mem_cons.mpr ⟨⟨(RX6, TX6, 27), rfl, by decide, tf_X6_40⟩, List.forall_mem_cons.mpr ⟨⟨(RX6, TX6, 27), rfl, by decide, tf_X6_43⟩, List.forall_mem_cons.mpr ⟨⟨(RX6, TX6, 27), rfl, by decide, tf_X6_46⟩, List.forall_mem_cons.mpr ⟨⟨(RX6, TX6, 27), rfl, by decide, tf_X6_49⟩, List.forall_mem_cons.mpr ⟨⟨(RX6, TX6, 27), rfl, by decide, tf_X6_52⟩, List.forall_mem_cons.mpr ⟨⟨(RX6, TX6, 27), rfl, by decide, tf_X6_55⟩, List.forall_mem_cons.mpr ⟨⟨(RX6, TX6, 27), rfl, by decide, tf_X6_58⟩, List.forall_mem_cons.mpr ⟨⟨(RX6, TX6, 27), rfl, by decide, tf_X6_61⟩, List.forall_mem_cons.mpr ⟨⟨(RX6, TX6, 27), rfl, by decide, tf_X6_64⟩, List.forall_mem_cons.mpr ⟨⟨(RX6, TX6, 27), rfl, by decide, tf_X6_67⟩, fun _ h => absurd h List.not_mem_nil⟩⟩⟩⟩⟩⟩⟩⟩⟩⟩⟩⟩⟩⟩⟩⟩⟩⟩⟩, fun _ h => absurd h List.not_mem_nil, fun _ h => absurd h List.not_mem_nil, fun _ h => absurd h List.not_mem_nil, List.forall_mem_cons.mpr ⟨Or.inl ⟨rfl, tj_X6_1⟩, fun _ h => absurd h List.not_mem_nil⟩⟩
set_option maxRecDepth 100000 in
theorem tw_X6_init_code : Jvm.Cond.code yX6_init cX6_init 2 none ∈ tb_GT := tb_mem 618 (rfl) rfl
theorem tw_X6_init_inst : Jvm.Cond.instanceMethod yX6_init ∈ tb_GT := tb_mem 617 (by decide +kernel) rfl
theorem tY_X6_init : mx_okY tb_cl tb_GT tm_X6_init := ⟨by decide +kernel, rfl, tw_X6_init_code, ti_X6, by decide +kernel, by decide +kernel, by decide +kernel, by decide, fun h => absurd h (by decide), fun h => absurd h (by decide), fun _ => ⟨tw_X6_init_inst, rfl, rfl, ⟨(RX6, TX6, 27), rfl, rfl⟩⟩⟩
theorem tL_X6_isInLog : mx_okL tb_cl tb_GT tb_NW tb_MT tm_X6_isInLog := ⟨List.forall_mem_cons.mpr ⟨⟨(RX6, TX6, 27), rfl, by decide, tf_X6_21⟩, fun _ h => absurd h List.not_mem_nil⟩, fun _ h => absurd h List.not_mem_nil, fun _ h => absurd h List.not_mem_nil, fun _ h => absurd h List.not_mem_nil, fun _ h => absurd h List.not_mem_nil⟩
set_option maxRecDepth 100000 in
theorem tw_X6_isInLog_code : Jvm.Cond.code yX6_isInLog cX6_isInLog 2 (some .boolean) ∈ tb_GT := tb_mem 781 (rfl) rfl
theorem tw_X6_isInLog_inst : Jvm.Cond.instanceMethod yX6_isInLog ∈ tb_GT := tb_mem 780 (by decide +kernel) rfl
theorem tw_X6_isInLog_sel : Jvm.Cond.selects RX6 yX6_isInLog yX6_isInLog ∈ tb_GT := tb_mem 43 (by decide +kernel) rfl
theorem tY_X6_isInLog : mx_okY tb_cl tb_GT tm_X6_isInLog := ⟨by decide +kernel, rfl, tw_X6_isInLog_code, ti_X6, by decide +kernel, by decide +kernel, by decide +kernel, by decide, fun h => absurd h (by decide), fun _ => ⟨tw_X6_isInLog_inst, tw_X6_isInLog_sel, ⟨(RX6, TX6, 27), rfl, rfl⟩⟩, fun h => absurd h (by decide)⟩
theorem tL_X6_sizeAt : mx_okL tb_cl tb_GT tb_NW tb_MT tm_X6_sizeAt := ⟨List.forall_mem_cons.mpr ⟨⟨(RX6, TX6, 27), rfl, by decide, tf_X6_7⟩, fun _ h => absurd h List.not_mem_nil⟩, fun _ h => absurd h List.not_mem_nil, fun _ h => absurd h List.not_mem_nil, fun _ h => absurd h List.not_mem_nil, fun _ h => absurd h List.not_mem_nil⟩
set_option maxRecDepth 100000 in
theorem tw_X6_sizeAt_code : Jvm.Cond.code yX6_sizeAt cX6_sizeAt 2 (some .int) ∈ tb_GT := tb_mem 769 (rfl) rfl
theorem tw_X6_sizeAt_inst : Jvm.Cond.instanceMethod yX6_sizeAt ∈ tb_GT := tb_mem 768 (by decide +kernel) rfl
theorem tw_X6_sizeAt_sel : Jvm.Cond.selects RX6 yX6_sizeAt yX6_sizeAt ∈ tb_GT := tb_mem 40 (by decide +kernel) rfl
theorem tY_X6_sizeAt : mx_okY tb_cl tb_GT tm_X6_sizeAt := ⟨by decide +kernel, rfl, tw_X6_sizeAt_code, ti_X6, by decide +kernel, by decide +kernel, by decide +kernel, by decide, fun h => absurd h (by decide), fun _ => ⟨tw_X6_sizeAt_inst, tw_X6_sizeAt_sel, ⟨(RX6, TX6, 27), rfl, rfl⟩⟩, fun h => absurd h (by decide)⟩
theorem tk_X6_77 : Jvm.Cond.constant RX6 77 (461845907) ∈ tb_GT := tb_mem 733 (by decide +kernel) rfl
theorem tL_X6_sumOf : mx_okL tb_cl tb_GT tb_NW tb_MT tm_X6_sumOf := ⟨fun _ h => absurd h List.not_mem_nil, fun _ h => absurd h List.not_mem_nil, List.forall_mem_cons.mpr ⟨tk_X6_77, fun _ h => absurd h List.not_mem_nil⟩, fun _ h => absurd h List.not_mem_nil, fun _ h => absurd h List.not_mem_nil⟩
set_option maxRecDepth 100000 in
theorem tw_X6_sumOf_code : Jvm.Cond.code yX6_sumOf cX6_sumOf 5 (some .int) ∈ tb_GT := tb_mem 732 (rfl) rfl
theorem tw_X6_sumOf_static : Jvm.Cond.static yX6_sumOf ∈ tb_GT := tb_mem 731 (by decide +kernel) rfl
theorem tY_X6_sumOf : mx_okY tb_cl tb_GT tm_X6_sumOf := ⟨by decide +kernel, rfl, tw_X6_sumOf_code, ti_X6, by decide +kernel, by decide +kernel, by decide +kernel, by decide, fun _ => tw_X6_sumOf_static, fun h => absurd h (by decide), fun h => absurd h (by decide)⟩
theorem tf_X6_70 : Jvm.Cond.fieldLink RX6 70 "PackDiskModel" "thrown" "I" ∈ tb_GT := tb_mem 620 (by decide +kernel) rfl
theorem tf_X6_100 : Jvm.Cond.fieldLink RX6 100 "PackDiskModel" "rows" "I" ∈ tb_GT := tb_mem 626 (by decide +kernel) rfl
theorem tf_X6_153 : Jvm.Cond.fieldLink RX6 153 "PackDiskModel" "generation" "I" ∈ tb_GT := tb_mem 627 (by decide +kernel) rfl
theorem tf_X6_93 : Jvm.Cond.fieldLink RX6 93 "PackDiskModel" "writes" "I" ∈ tb_GT := tb_mem 633 (by decide +kernel) rfl
theorem tf_X6_165 : Jvm.Cond.fieldLink RX6 165 "PackDiskModel" "repaired" "I" ∈ tb_GT := tb_mem 628 (by decide +kernel) rfl
theorem tf_X6_125 : Jvm.Cond.fieldLink RX6 125 "PackDiskModel" "found" "I" ∈ tb_GT := tb_mem 629 (by decide +kernel) rfl
theorem tf_X6_116 : Jvm.Cond.fieldLink RX6 116 "PackDiskModel" "size" "I" ∈ tb_GT := tb_mem 631 (by decide +kernel) rfl
theorem tL_X6_told : mx_okL tb_cl tb_GT tb_NW tb_MT tm_X6_told := ⟨List.forall_mem_cons.mpr ⟨⟨(RX6, TX6, 27), rfl, by decide, tf_X6_70⟩, List.forall_mem_cons.mpr ⟨⟨(RX6, TX6, 27), rfl, by decide, tf_X6_17⟩, List.forall_mem_cons.mpr ⟨⟨(RX6, TX6, 27), rfl, by decide, tf_X6_21⟩, List.forall_mem_cons.mpr ⟨⟨(RX6, TX6, 27), rfl, by decide, tf_X6_100⟩, List.forall_mem_cons.mpr ⟨⟨(RX6, TX6, 27), rfl, by decide, tf_X6_153⟩, List.forall_mem_cons.mpr ⟨⟨(RX6, TX6, 27), rfl, by decide, tf_X6_93⟩, List.forall_mem_cons.mpr ⟨⟨(RX6, TX6, 27), rfl, by decide, tf_X6_165⟩, List.forall_mem_cons.mpr ⟨⟨(RX6, TX6, 27), rfl, by decide, tf_X6_125⟩, List.forall_mem_cons.mpr ⟨⟨(RX6, TX6, 27), rfl, by decide, tf_X6_25⟩, List.forall_mem_cons.mpr ⟨⟨(RX6, TX6, 27), rfl, by decide, tf_X6_116⟩, List.forall_mem_cons.mpr ⟨⟨(RX6, TX6, 27), rfl, by decide, tf_X6_67⟩, List.forall_mem_cons.mpr ⟨⟨(RX6, TX6, 27), rfl, by decide, tf_X6_13⟩, fun _ h => absurd h List.not_mem_nil⟩⟩⟩⟩⟩⟩⟩⟩⟩⟩⟩⟩, fun _ h => absurd h List.not_mem_nil, fun _ h => absurd h List.not_mem_nil, fun _ h => absurd h List.not_mem_nil, fun _ h => absurd h List.not_mem_nil⟩
set_option maxRecDepth 100000 in
theorem tw_X6_told_code : Jvm.Cond.code yX6_told cX6_told 4 (some .int) ∈ tb_GT := tb_mem 881 (rfl) rfl
theorem tw_X6_told_inst : Jvm.Cond.instanceMethod yX6_told ∈ tb_GT := tb_mem 879 (by decide +kernel) rfl
theorem tw_X6_told_sel : Jvm.Cond.selects RX6 yX6_told yX6_told ∈ tb_GT := tb_mem 880 (by decide +kernel) rfl
theorem tY_X6_told : mx_okY tb_cl tb_GT tm_X6_told := ⟨by decide +kernel, rfl, tw_X6_told_code, ti_X6, by decide +kernel, by decide +kernel, by decide +kernel, by decide, fun h => absurd h (by decide), fun _ => ⟨tw_X6_told_inst, tw_X6_told_sel, ⟨(RX6, TX6, 27), rfl, rfl⟩⟩, fun h => absurd h (by decide)⟩
theorem tL_X6_twice : mx_okL tb_cl tb_GT tb_NW tb_MT tm_X6_twice := ⟨fun _ h => absurd h List.not_mem_nil, fun _ h => absurd h List.not_mem_nil, fun _ h => absurd h List.not_mem_nil, fun _ h => absurd h List.not_mem_nil, fun _ h => absurd h List.not_mem_nil⟩
set_option maxRecDepth 100000 in
theorem tw_X6_twice_code : Jvm.Cond.code yX6_twice cX6_twice 2 (some .int) ∈ tb_GT := tb_mem 790 (rfl) rfl
theorem tw_X6_twice_static : Jvm.Cond.static yX6_twice ∈ tb_GT := tb_mem 789 (by decide +kernel) rfl
theorem tY_X6_twice : mx_okY tb_cl tb_GT tm_X6_twice := ⟨by decide +kernel, rfl, tw_X6_twice_code, ti_X6, by decide +kernel, by decide +kernel, by decide +kernel, by decide, fun _ => tw_X6_twice_static, fun h => absurd h (by decide), fun h => absurd h (by decide)⟩
theorem tL_X6_weight : mx_okL tb_cl tb_GT tb_NW tb_MT tm_X6_weight := ⟨fun _ h => absurd h List.not_mem_nil, fun _ h => absurd h List.not_mem_nil, fun _ h => absurd h List.not_mem_nil, fun _ h => absurd h List.not_mem_nil, fun _ h => absurd h List.not_mem_nil⟩
set_option maxRecDepth 100000 in
theorem tw_X6_weight_code : Jvm.Cond.code yX6_weight cX6_weight 2 (some .int) ∈ tb_GT := tb_mem 784 (rfl) rfl
theorem tw_X6_weight_static : Jvm.Cond.static yX6_weight ∈ tb_GT := tb_mem 783 (by decide +kernel) rfl
theorem tY_X6_weight : mx_okY tb_cl tb_GT tm_X6_weight := ⟨by decide +kernel, rfl, tw_X6_weight_code, ti_X6, by decide +kernel, by decide +kernel, by decide +kernel, by decide, fun _ => tw_X6_weight_static, fun h => absurd h (by decide), fun h => absurd h (by decide)⟩
theorem tj_X0_15 : Jvm.Cond.methodLink RX0 15 yJ7_fill_53178 ∈ tb_GT := tb_mem 243 (by decide +kernel) rfl
theorem tL_X0_begin : mx_okL tb_cl tb_GT tb_NW tb_MT tm_X0_begin := ⟨List.forall_mem_cons.mpr ⟨⟨(RX0, TX0, 1), rfl, by decide, tf_X0_9⟩, fun _ h => absurd h List.not_mem_nil⟩, fun _ h => absurd h List.not_mem_nil, fun _ h => absurd h List.not_mem_nil, fun _ h => absurd h List.not_mem_nil, List.forall_mem_cons.mpr ⟨Or.inr (Or.inr (Or.inr (Or.inr ⟨by decide, fun M1 h1 => by have h2 : M1 = tm_J7_fill_53178 := (Option.some.inj (h1.symm.trans tn_J7_fill_53178)); subst h2; exact Or.inl tj_X0_15⟩))), fun _ h => absurd h List.not_mem_nil⟩⟩
set_option maxRecDepth 100000 in
theorem tw_X0_begin_code : Jvm.Cond.code yX0_begin cX0_begin 5 none ∈ tb_GT := tb_mem 242 (rfl) rfl
theorem tw_X0_begin_inst : Jvm.Cond.instanceMethod yX0_begin ∈ tb_GT := tb_mem 240 (by decide +kernel) rfl
theorem tw_X0_begin_sel : Jvm.Cond.selects RX0 yX0_begin yX0_begin ∈ tb_GT := tb_mem 241 (by decide +kernel) rfl
theorem tY_X0_begin : mx_okY tb_cl tb_GT tm_X0_begin := ⟨by decide +kernel, rfl, tw_X0_begin_code, ti_X0, by decide +kernel, by decide +kernel, by decide +kernel, by decide, fun h => absurd h (by decide), fun _ => ⟨tw_X0_begin_inst, tw_X0_begin_sel, ⟨(RX0, TX0, 1), rfl, rfl⟩⟩, fun h => absurd h (by decide)⟩
theorem tL_X0_seal : mx_okL tb_cl tb_GT tb_NW tb_MT tm_X0_seal := ⟨List.forall_mem_cons.mpr ⟨⟨(RX0, TX0, 1), rfl, by decide, tf_X0_9⟩, fun _ h => absurd h List.not_mem_nil⟩, fun _ h => absurd h List.not_mem_nil, fun _ h => absurd h List.not_mem_nil, fun _ h => absurd h List.not_mem_nil, List.forall_mem_cons.mpr ⟨Or.inr (Or.inr (Or.inr (Or.inr ⟨by decide, fun M1 h1 => by have h2 : M1 = tm_X5_sumOf := (Option.some.inj (h1.symm.trans tn_X5_sumOf)); subst h2; exact Or.inr ⟨_, List.mem_of_getElem? (i := 3) rfl⟩⟩))), fun _ h => absurd h List.not_mem_nil⟩⟩
set_option maxRecDepth 100000 in
theorem tw_X0_seal_code : Jvm.Cond.code yX0_seal cX0_seal 3 none ∈ tb_GT := tb_mem 288 (rfl) rfl
theorem tw_X0_seal_inst : Jvm.Cond.instanceMethod yX0_seal ∈ tb_GT := tb_mem 286 (by decide +kernel) rfl
theorem tw_X0_seal_sel : Jvm.Cond.selects RX0 yX0_seal yX0_seal ∈ tb_GT := tb_mem 287 (by decide +kernel) rfl
theorem tY_X0_seal : mx_okY tb_cl tb_GT tm_X0_seal := ⟨by decide +kernel, rfl, tw_X0_seal_code, ti_X0, by decide +kernel, by decide +kernel, by decide +kernel, by decide, fun h => absurd h (by decide), fun _ => ⟨tw_X0_seal_inst, tw_X0_seal_sel, ⟨(RX0, TX0, 1), rfl, rfl⟩⟩, fun h => absurd h (by decide)⟩
theorem tj_X1_7 : Jvm.Cond.methodLink RX1 7 yX1_twice ∈ tb_GT := tb_mem 460 (by decide +kernel) rfl
theorem tL_X1_times : mx_okL tb_cl tb_GT tb_NW tb_MT tm_X1_times := ⟨fun _ h => absurd h List.not_mem_nil, fun _ h => absurd h List.not_mem_nil, fun _ h => absurd h List.not_mem_nil, fun _ h => absurd h List.not_mem_nil, List.forall_mem_cons.mpr ⟨Or.inr (Or.inr (Or.inr (Or.inr ⟨by decide, fun M1 h1 => by have h2 : M1 = tm_X1_twice := (Option.some.inj (h1.symm.trans tn_X1_twice)); subst h2; exact Or.inl tj_X1_7⟩))), fun _ h => absurd h List.not_mem_nil⟩⟩
set_option maxRecDepth 100000 in
theorem tw_X1_times_code : Jvm.Cond.code yX1_times cX1_times 4 (some .int) ∈ tb_GT := tb_mem 459 (rfl) rfl
theorem tw_X1_times_static : Jvm.Cond.static yX1_times ∈ tb_GT := tb_mem 458 (by decide +kernel) rfl
theorem tY_X1_times : mx_okY tb_cl tb_GT tm_X1_times := ⟨by decide +kernel, rfl, tw_X1_times_code, ti_X1, by decide +kernel, by decide +kernel, by decide +kernel, by decide, fun _ => tw_X1_times_static, fun h => absurd h (by decide), fun h => absurd h (by decide)⟩
theorem tj_X2_28 : Jvm.Cond.methodLink RX2 28 yJ7_fill_53178 ∈ tb_GT := tb_mem 440 (by decide +kernel) rfl
theorem tL_X2_clear : mx_okL tb_cl tb_GT tb_NW tb_MT tm_X2_clear := ⟨List.forall_mem_cons.mpr ⟨⟨(RX2, TX2, 6), rfl, by decide, tf_X2_24⟩, List.forall_mem_cons.mpr ⟨⟨(RX2, TX2, 6), rfl, by decide, tf_X2_15⟩, List.forall_mem_cons.mpr ⟨⟨(RX2, TX2, 6), rfl, by decide, tf_X2_18⟩, fun _ h => absurd h List.not_mem_nil⟩⟩⟩, fun _ h => absurd h List.not_mem_nil, fun _ h => absurd h List.not_mem_nil, fun _ h => absurd h List.not_mem_nil, List.forall_mem_cons.mpr ⟨Or.inr (Or.inr (Or.inr (Or.inr ⟨by decide, fun M1 h1 => by have h2 : M1 = tm_J7_fill_53178 := (Option.some.inj (h1.symm.trans tn_J7_fill_53178)); subst h2; exact Or.inl tj_X2_28⟩))), fun _ h => absurd h List.not_mem_nil⟩⟩
set_option maxRecDepth 100000 in
theorem tw_X2_clear_code : Jvm.Cond.code yX2_clear cX2_clear 1 none ∈ tb_GT := tb_mem 439 (rfl) rfl
theorem tw_X2_clear_inst : Jvm.Cond.instanceMethod yX2_clear ∈ tb_GT := tb_mem 437 (by decide +kernel) rfl
theorem tw_X2_clear_sel : Jvm.Cond.selects RX2 yX2_clear yX2_clear ∈ tb_GT := tb_mem 438 (by decide +kernel) rfl
theorem tY_X2_clear : mx_okY tb_cl tb_GT tm_X2_clear := ⟨by decide +kernel, rfl, tw_X2_clear_code, ti_X2, by decide +kernel, by decide +kernel, by decide +kernel, by decide, fun h => absurd h (by decide), fun _ => ⟨tw_X2_clear_inst, tw_X2_clear_sel, ⟨(RX2, TX2, 6), rfl, rfl⟩⟩, fun h => absurd h (by decide)⟩
theorem tj_X4_35 : Jvm.Cond.methodLink RX4 35 yX4_cell ∈ tb_GT := tb_mem 272 (by decide +kernel) rfl
theorem tL_X4_content : mx_okL tb_cl tb_GT tb_NW tb_MT tm_X4_content := ⟨fun _ h => absurd h List.not_mem_nil, fun _ h => absurd h List.not_mem_nil, fun _ h => absurd h List.not_mem_nil, fun _ h => absurd h List.not_mem_nil, List.forall_mem_cons.mpr ⟨Or.inr (Or.inr (Or.inr (Or.inr ⟨by decide, fun M1 h1 => by have h2 : M1 = tm_X4_cell := (Option.some.inj (h1.symm.trans tn_X4_cell)); subst h2; exact Or.inl tj_X4_35⟩))), fun _ h => absurd h List.not_mem_nil⟩⟩
set_option maxRecDepth 100000 in
theorem tw_X4_content_code : Jvm.Cond.code yX4_content cX4_content 3 (some .int) ∈ tb_GT := tb_mem 345 (rfl) rfl
theorem tw_X4_content_inst : Jvm.Cond.instanceMethod yX4_content ∈ tb_GT := tb_mem 343 (by decide +kernel) rfl
theorem tw_X4_content_sel : Jvm.Cond.selects RX4 yX4_content yX4_content ∈ tb_GT := tb_mem 344 (by decide +kernel) rfl
theorem tY_X4_content : mx_okY tb_cl tb_GT tm_X4_content := ⟨by decide +kernel, rfl, tw_X4_content_code, ti_X4, by decide +kernel, by decide +kernel, by decide +kernel, by decide, fun h => absurd h (by decide), fun _ => ⟨tw_X4_content_inst, tw_X4_content_sel, ⟨(RX4, TX4, 4), rfl, rfl⟩⟩, fun h => absurd h (by decide)⟩
theorem tj_X4_38 : Jvm.Cond.methodLink RX4 38 yX4_has ∈ tb_GT := tb_mem 264 (by decide +kernel) rfl
theorem tj_X4_55 : Jvm.Cond.methodLink RX4 55 arraycopyName ∈ tb_GT := tb_mem 305 (by decide +kernel) rfl
theorem tL_X4_copyTo : mx_okL tb_cl tb_GT tb_NW tb_MT tm_X4_copyTo := ⟨List.forall_mem_cons.mpr ⟨⟨(RX4, TX4, 4), rfl, by decide, tf_X4_24⟩, fun _ h => absurd h List.not_mem_nil⟩, fun _ h => absurd h List.not_mem_nil, fun _ h => absurd h List.not_mem_nil, fun _ h => absurd h List.not_mem_nil, List.forall_mem_cons.mpr ⟨Or.inr (Or.inr (Or.inr (Or.inr ⟨by decide, fun M1 h1 => by have h2 : M1 = tm_X4_has := (Option.some.inj (h1.symm.trans tn_X4_has)); subst h2; exact Or.inl tj_X4_38⟩))), List.forall_mem_cons.mpr ⟨Or.inr (Or.inr (Or.inr (Or.inl ⟨rfl, tj_X4_55⟩))), fun _ h => absurd h List.not_mem_nil⟩⟩⟩
set_option maxRecDepth 100000 in
theorem tw_X4_copyTo_code : Jvm.Cond.code yX4_copyTo cX4_copyTo 4 none ∈ tb_GT := tb_mem 304 (rfl) rfl
theorem tw_X4_copyTo_inst : Jvm.Cond.instanceMethod yX4_copyTo ∈ tb_GT := tb_mem 302 (by decide +kernel) rfl
theorem tw_X4_copyTo_sel : Jvm.Cond.selects RX4 yX4_copyTo yX4_copyTo ∈ tb_GT := tb_mem 303 (by decide +kernel) rfl
theorem tY_X4_copyTo : mx_okY tb_cl tb_GT tm_X4_copyTo := ⟨by decide +kernel, rfl, tw_X4_copyTo_code, ti_X4, by decide +kernel, by decide +kernel, by decide +kernel, by decide, fun h => absurd h (by decide), fun _ => ⟨tw_X4_copyTo_inst, tw_X4_copyTo_sel, ⟨(RX4, TX4, 4), rfl, rfl⟩⟩, fun h => absurd h (by decide)⟩
theorem tj_X4_42 : Jvm.Cond.methodLink RX4 42 yX0_cell ∈ tb_GT := tb_mem 276 (by decide +kernel) rfl
theorem tL_X4_hasContentOf : mx_okL tb_cl tb_GT tb_NW tb_MT tm_X4_hasContentOf := ⟨fun _ h => absurd h List.not_mem_nil, fun _ h => absurd h List.not_mem_nil, fun _ h => absurd h List.not_mem_nil, fun _ h => absurd h List.not_mem_nil, List.forall_mem_cons.mpr ⟨Or.inr (Or.inr (Or.inr (Or.inr ⟨by decide, fun M1 h1 => by have h2 : M1 = tm_X4_cell := (Option.some.inj (h1.symm.trans tn_X4_cell)); subst h2; exact Or.inl tj_X4_35⟩))), List.forall_mem_cons.mpr ⟨Or.inr (Or.inr (Or.inr (Or.inr ⟨by decide, fun M1 h1 => by have h2 : M1 = tm_X0_cell := (Option.some.inj (h1.symm.trans tn_X0_cell)); subst h2; exact Or.inl tj_X4_42⟩))), fun _ h => absurd h List.not_mem_nil⟩⟩⟩
set_option maxRecDepth 100000 in
theorem tw_X4_hasContentOf_code : Jvm.Cond.code yX4_hasContentOf cX4_hasContentOf 4 (some .boolean) ∈ tb_GT := tb_mem 271 (rfl) rfl
theorem tw_X4_hasContentOf_inst : Jvm.Cond.instanceMethod yX4_hasContentOf ∈ tb_GT := tb_mem 269 (by decide +kernel) rfl
theorem tw_X4_hasContentOf_sel : Jvm.Cond.selects RX4 yX4_hasContentOf yX4_hasContentOf ∈ tb_GT := tb_mem 270 (by decide +kernel) rfl
theorem tY_X4_hasContentOf : mx_okY tb_cl tb_GT tm_X4_hasContentOf := ⟨by decide +kernel, rfl, tw_X4_hasContentOf_code, ti_X4, by decide +kernel, by decide +kernel, by decide +kernel, by decide, fun h => absurd h (by decide), fun _ => ⟨tw_X4_hasContentOf_inst, tw_X4_hasContentOf_sel, ⟨(RX4, TX4, 4), rfl, rfl⟩⟩, fun h => absurd h (by decide)⟩
theorem tL_X4_isLost : mx_okL tb_cl tb_GT tb_NW tb_MT tm_X4_isLost := ⟨List.forall_mem_cons.mpr ⟨⟨(RX4, TX4, 4), rfl, by decide, tf_X4_28⟩, fun _ h => absurd h List.not_mem_nil⟩, fun _ h => absurd h List.not_mem_nil, fun _ h => absurd h List.not_mem_nil, fun _ h => absurd h List.not_mem_nil, List.forall_mem_cons.mpr ⟨Or.inr (Or.inr (Or.inr (Or.inr ⟨by decide, fun M1 h1 => by have h2 : M1 = tm_X4_has := (Option.some.inj (h1.symm.trans tn_X4_has)); subst h2; exact Or.inl tj_X4_38⟩))), fun _ h => absurd h List.not_mem_nil⟩⟩
set_option maxRecDepth 100000 in
theorem tw_X4_isLost_code : Jvm.Cond.code yX4_isLost cX4_isLost 2 (some .boolean) ∈ tb_GT := tb_mem 300 (rfl) rfl
theorem tw_X4_isLost_inst : Jvm.Cond.instanceMethod yX4_isLost ∈ tb_GT := tb_mem 298 (by decide +kernel) rfl
theorem tw_X4_isLost_sel : Jvm.Cond.selects RX4 yX4_isLost yX4_isLost ∈ tb_GT := tb_mem 299 (by decide +kernel) rfl
theorem tY_X4_isLost : mx_okY tb_cl tb_GT tm_X4_isLost := ⟨by decide +kernel, rfl, tw_X4_isLost_code, ti_X4, by decide +kernel, by decide +kernel, by decide +kernel, by decide, fun h => absurd h (by decide), fun _ => ⟨tw_X4_isLost_inst, tw_X4_isLost_sel, ⟨(RX4, TX4, 4), rfl, rfl⟩⟩, fun h => absurd h (by decide)⟩
theorem tL_X4_judge : mx_okL tb_cl tb_GT tb_NW tb_MT tm_X4_judge := ⟨List.forall_mem_cons.mpr ⟨⟨(RX4, TX4, 4), rfl, by decide, tf_X4_24⟩, List.forall_mem_cons.mpr ⟨⟨(RX4, TX4, 4), rfl, by decide, tf_X4_32⟩, List.forall_mem_cons.mpr ⟨⟨(RX4, TX4, 4), rfl, by decide, tf_X4_28⟩, fun _ h => absurd h List.not_mem_nil⟩⟩⟩, fun _ h => absurd h List.not_mem_nil, fun _ h => absurd h List.not_mem_nil, fun _ h => absurd h List.not_mem_nil, List.forall_mem_cons.mpr ⟨Or.inr (Or.inr (Or.inr (Or.inr ⟨by decide, fun M1 h1 => by have h2 : M1 = tm_X4_has := (Option.some.inj (h1.symm.trans tn_X4_has)); subst h2; exact Or.inl tj_X4_38⟩))), List.forall_mem_cons.mpr ⟨Or.inr (Or.inr (Or.inr (Or.inr ⟨by decide, fun M1 h1 => by have h2 : M1 = tm_X4_cell := (Option.some.inj (h1.symm.trans tn_X4_cell)); subst h2; exact Or.inl tj_X4_35⟩))), List.forall_mem_cons.mpr ⟨Or.inr (Or.inr (Or.inr (Or.inr ⟨by decide, fun M1 h1 => by have h2 : M1 = tm_X5_sumOf := (Option.some.inj (h1.symm.trans tn_X5_sumOf)); subst h2; exact Or.inr ⟨_, List.mem_of_getElem? (i := 4) rfl⟩⟩))), fun _ h => absurd h List.not_mem_nil⟩⟩⟩⟩
set_option maxRecDepth 100000 in
theorem tw_X4_judge_code : Jvm.Cond.code yX4_judge cX4_judge 5 none ∈ tb_GT := tb_mem 315 (rfl) rfl
theorem tw_X4_judge_inst : Jvm.Cond.instanceMethod yX4_judge ∈ tb_GT := tb_mem 314 (by decide +kernel) rfl
theorem tw_X4_judge_sel : Jvm.Cond.selects RX4 yX4_judge yX4_judge ∈ tb_GT := tb_mem 7 (by decide +kernel) rfl
theorem tY_X4_judge : mx_okY tb_cl tb_GT tm_X4_judge := ⟨by decide +kernel, rfl, tw_X4_judge_code, ti_X4, by decide +kernel, by decide +kernel, by decide +kernel, by decide, fun h => absurd h (by decide), fun _ => ⟨tw_X4_judge_inst, tw_X4_judge_sel, ⟨(RX4, TX4, 4), rfl, rfl⟩⟩, fun h => absurd h (by decide)⟩
theorem tL_X4_markLost : mx_okL tb_cl tb_GT tb_NW tb_MT tm_X4_markLost := ⟨List.forall_mem_cons.mpr ⟨⟨(RX4, TX4, 4), rfl, by decide, tf_X4_28⟩, List.forall_mem_cons.mpr ⟨⟨(RX4, TX4, 4), rfl, by decide, tf_X4_32⟩, fun _ h => absurd h List.not_mem_nil⟩⟩, fun _ h => absurd h List.not_mem_nil, fun _ h => absurd h List.not_mem_nil, fun _ h => absurd h List.not_mem_nil, List.forall_mem_cons.mpr ⟨Or.inr (Or.inr (Or.inr (Or.inr ⟨by decide, fun M1 h1 => by have h2 : M1 = tm_X4_has := (Option.some.inj (h1.symm.trans tn_X4_has)); subst h2; exact Or.inl tj_X4_38⟩))), fun _ h => absurd h List.not_mem_nil⟩⟩
set_option maxRecDepth 100000 in
theorem tw_X4_markLost_code : Jvm.Cond.code yX4_markLost cX4_markLost 2 none ∈ tb_GT := tb_mem 493 (rfl) rfl
theorem tw_X4_markLost_inst : Jvm.Cond.instanceMethod yX4_markLost ∈ tb_GT := tb_mem 491 (by decide +kernel) rfl
theorem tw_X4_markLost_sel : Jvm.Cond.selects RX4 yX4_markLost yX4_markLost ∈ tb_GT := tb_mem 492 (by decide +kernel) rfl
theorem tY_X4_markLost : mx_okY tb_cl tb_GT tm_X4_markLost := ⟨by decide +kernel, rfl, tw_X4_markLost_code, ti_X4, by decide +kernel, by decide +kernel, by decide +kernel, by decide, fun h => absurd h (by decide), fun _ => ⟨tw_X4_markLost_inst, tw_X4_markLost_sel, ⟨(RX4, TX4, 4), rfl, rfl⟩⟩, fun h => absurd h (by decide)⟩
theorem tL_X4_wholeSort : mx_okL tb_cl tb_GT tb_NW tb_MT tm_X4_wholeSort := ⟨List.forall_mem_cons.mpr ⟨⟨(RX4, TX4, 4), rfl, by decide, tf_X4_32⟩, fun _ h => absurd h List.not_mem_nil⟩, fun _ h => absurd h List.not_mem_nil, fun _ h => absurd h List.not_mem_nil, fun _ h => absurd h List.not_mem_nil, List.forall_mem_cons.mpr ⟨Or.inr (Or.inr (Or.inr (Or.inr ⟨by decide, fun M1 h1 => by have h2 : M1 = tm_X4_has := (Option.some.inj (h1.symm.trans tn_X4_has)); subst h2; exact Or.inl tj_X4_38⟩))), fun _ h => absurd h List.not_mem_nil⟩⟩
set_option maxRecDepth 100000 in
theorem tw_X4_wholeSort_code : Jvm.Cond.code yX4_wholeSort cX4_wholeSort 2 (some .int) ∈ tb_GT := tb_mem 263 (rfl) rfl
theorem tw_X4_wholeSort_inst : Jvm.Cond.instanceMethod yX4_wholeSort ∈ tb_GT := tb_mem 261 (by decide +kernel) rfl
theorem tw_X4_wholeSort_sel : Jvm.Cond.selects RX4 yX4_wholeSort yX4_wholeSort ∈ tb_GT := tb_mem 262 (by decide +kernel) rfl
theorem tY_X4_wholeSort : mx_okY tb_cl tb_GT tm_X4_wholeSort := ⟨by decide +kernel, rfl, tw_X4_wholeSort_code, ti_X4, by decide +kernel, by decide +kernel, by decide +kernel, by decide, fun h => absurd h (by decide), fun _ => ⟨tw_X4_wholeSort_inst, tw_X4_wholeSort_sel, ⟨(RX4, TX4, 4), rfl, rfl⟩⟩, fun h => absurd h (by decide)⟩
theorem tf_X5_46 : Jvm.Cond.fieldLink RX5 46 "PackDisk" "on" "Z" ∈ tb_GT := tb_mem 167 (by decide +kernel) rfl
theorem tf_X5_39 : Jvm.Cond.fieldLink RX5 39 "PackDisk" "openBytes" "[I" ∈ tb_GT := tb_mem 165 (by decide +kernel) rfl
theorem tj_X5_57 : Jvm.Cond.methodLink RX5 57 yX5_isOpen ∈ tb_GT := tb_mem 208 (by decide +kernel) rfl
theorem tL_X5_add : mx_okL tb_cl tb_GT tb_NW tb_MT tm_X5_add := ⟨List.forall_mem_cons.mpr ⟨⟨(RX5, TX5, 14), rfl, by decide, tf_X5_46⟩, List.forall_mem_cons.mpr ⟨⟨(RX5, TX5, 14), rfl, by decide, tf_X5_54⟩, List.forall_mem_cons.mpr ⟨⟨(RX5, TX5, 14), rfl, by decide, tf_X5_39⟩, fun _ h => absurd h List.not_mem_nil⟩⟩⟩, fun _ h => absurd h List.not_mem_nil, fun _ h => absurd h List.not_mem_nil, fun _ h => absurd h List.not_mem_nil, List.forall_mem_cons.mpr ⟨Or.inr (Or.inr (Or.inr (Or.inr ⟨by decide, fun M1 h1 => by have h2 : M1 = tm_X5_isOpen := (Option.some.inj (h1.symm.trans tn_X5_isOpen)); subst h2; exact Or.inl tj_X5_57⟩))), fun _ h => absurd h List.not_mem_nil⟩⟩
set_option maxRecDepth 100000 in
theorem tw_X5_add_code : Jvm.Cond.code yX5_add cX5_add 5 (some .int) ∈ tb_GT := tb_mem 226 (rfl) rfl
theorem tw_X5_add_inst : Jvm.Cond.instanceMethod yX5_add ∈ tb_GT := tb_mem 224 (by decide +kernel) rfl
theorem tw_X5_add_sel : Jvm.Cond.selects RX5 yX5_add yX5_add ∈ tb_GT := tb_mem 225 (by decide +kernel) rfl
theorem tY_X5_add : mx_okY tb_cl tb_GT tm_X5_add := ⟨by decide +kernel, rfl, tw_X5_add_code, ti_X5, by decide +kernel, by decide +kernel, by decide +kernel, by decide, fun h => absurd h (by decide), fun _ => ⟨tw_X5_add_inst, tw_X5_add_sel, ⟨(RX5, TX5, 14), rfl, rfl⟩⟩, fun h => absurd h (by decide)⟩
theorem tf_X5_12 : Jvm.Cond.fieldLink RX5 12 "PackDisk" "sectors" "LPackDisk$Sectors;" ∈ tb_GT := tb_mem 161 (by decide +kernel) rfl
theorem tf_X5_21 : Jvm.Cond.fieldLink RX5 21 "PackDisk" "journal" "LPackDisk$Journal;" ∈ tb_GT := tb_mem 162 (by decide +kernel) rfl
theorem tf_X5_28 : Jvm.Cond.fieldLink RX5 28 "PackDisk" "draft" "LPackDisk$Draft;" ∈ tb_GT := tb_mem 163 (by decide +kernel) rfl
theorem tf_X5_35 : Jvm.Cond.fieldLink RX5 35 "PackDisk" "gaps" "LPackDisk$Gaps;" ∈ tb_GT := tb_mem 164 (by decide +kernel) rfl
theorem tf_X5_43 : Jvm.Cond.fieldLink RX5 43 "PackDisk" "places" "[I" ∈ tb_GT := tb_mem 166 (by decide +kernel) rfl
theorem tc_X5_7 : Jvm.Cond.classLink RX5 7 RX4 ∈ tb_GT := tb_mem 80 (by decide +kernel) rfl
theorem tc_X5_18 : Jvm.Cond.classLink RX5 18 RX3 ∈ tb_GT := tb_mem 107 (by decide +kernel) rfl
theorem tc_X5_25 : Jvm.Cond.classLink RX5 25 RX0 ∈ tb_GT := tb_mem 126 (by decide +kernel) rfl
theorem tc_X5_32 : Jvm.Cond.classLink RX5 32 RX2 ∈ tb_GT := tb_mem 136 (by decide +kernel) rfl
theorem tj_X5_1 : Jvm.Cond.methodLink RX5 1 Lib.objectInit ∈ tb_GT := tb_mem 77 (by decide +kernel) rfl
theorem tj_X5_9 : Jvm.Cond.methodLink RX5 9 yX4_init ∈ tb_GT := tb_mem 82 (by decide +kernel) rfl
theorem tL_X5_init : mx_okL tb_cl tb_GT tb_NW tb_MT tm_X5_init := ⟨List.forall_mem_cons.mpr ⟨⟨(RX5, TX5, 14), rfl, by decide, tf_X5_12⟩, List.forall_mem_cons.mpr ⟨⟨(RX5, TX5, 14), rfl, by decide, tf_X5_21⟩, List.forall_mem_cons.mpr ⟨⟨(RX5, TX5, 14), rfl, by decide, tf_X5_28⟩, List.forall_mem_cons.mpr ⟨⟨(RX5, TX5, 14), rfl, by decide, tf_X5_35⟩, List.forall_mem_cons.mpr ⟨⟨(RX5, TX5, 14), rfl, by decide, tf_X5_39⟩, List.forall_mem_cons.mpr ⟨⟨(RX5, TX5, 14), rfl, by decide, tf_X5_43⟩, List.forall_mem_cons.mpr ⟨⟨(RX5, TX5, 14), rfl, by decide, tf_X5_46⟩, List.forall_mem_cons.mpr ⟨⟨(RX5, TX5, 14), rfl, by decide, tf_X5_50⟩, List.forall_mem_cons.mpr ⟨⟨(RX5, TX5, 14), rfl, by decide, tf_X5_54⟩, fun _ h => absurd h List.not_mem_nil⟩⟩⟩⟩⟩⟩⟩⟩⟩, List.forall_mem_cons.mpr ⟨⟨(RX4, TX4, 4), rfl, tc_X5_7⟩, List.forall_mem_cons.mpr ⟨⟨(RX3, TX3, 4), rfl, tc_X5_18⟩, List.forall_mem_cons.mpr ⟨⟨(RX0, TX0, 1), rfl, tc_X5_25⟩, List.forall_mem_cons.mpr ⟨⟨(RX2, TX2, 6), rfl, tc_X5_32⟩, fun _ h => absurd h List.not_mem_nil⟩⟩⟩⟩, fun _ h => absurd h List.not_mem_nil, fun _ h => absurd h List.not_mem_nil, List.forall_mem_cons.mpr ⟨Or.inl ⟨rfl, tj_X5_1⟩, List.forall_mem_cons.mpr ⟨Or.inr (Or.inr (Or.inr (Or.inr ⟨by decide, fun M1 h1 => by have h2 : M1 = tm_X4_init := (Option.some.inj (h1.symm.trans tn_X4_init)); subst h2; exact Or.inl tj_X5_9⟩))), List.forall_mem_cons.mpr ⟨Or.inr (Or.inr (Or.inr (Or.inr ⟨by decide, fun M1 h1 => by have h2 : M1 = tm_X3_init := (Option.some.inj (h1.symm.trans tn_X3_init)); subst h2; exact Or.inr ⟨_, List.mem_of_getElem? (i := 0) rfl⟩⟩))), List.forall_mem_cons.mpr ⟨Or.inr (Or.inr (Or.inr (Or.inr ⟨by decide, fun M1 h1 => by have h2 : M1 = tm_X0_init := (Option.some.inj (h1.symm.trans tn_X0_init)); subst h2; exact Or.inr ⟨_, List.mem_of_getElem? (i := 1) rfl⟩⟩))), List.forall_mem_cons.mpr ⟨Or.inr (Or.inr (Or.inr (Or.inr ⟨by decide, fun M1 h1 => by have h2 : M1 = tm_X2_init := (Option.some.inj (h1.symm.trans tn_X2_init)); subst h2; exact Or.inr ⟨_, List.mem_of_getElem? (i := 2) rfl⟩⟩))), fun _ h => absurd h List.not_mem_nil⟩⟩⟩⟩⟩⟩
set_option maxRecDepth 100000 in
theorem tw_X5_init_code : Jvm.Cond.code yX5_init cX5_init 2 none ∈ tb_GT := tb_mem 76 (rfl) rfl
theorem tw_X5_init_inst : Jvm.Cond.instanceMethod yX5_init ∈ tb_GT := tb_mem 75 (by decide +kernel) rfl
theorem tY_X5_init : mx_okY tb_cl tb_GT tm_X5_init := ⟨by decide +kernel, rfl, tw_X5_init_code, ti_X5, by decide +kernel, by decide +kernel, by decide +kernel, by decide, fun h => absurd h (by decide), fun h => absurd h (by decide), fun _ => ⟨tw_X5_init_inst, rfl, rfl, ⟨(RX5, TX5, 14), rfl, rfl⟩⟩⟩
theorem tj_X5_170 : Jvm.Cond.methodLink RX5 170 yX4_cell ∈ tb_GT := tb_mem 329 (by decide +kernel) rfl
theorem tL_X5_lengthOfRow : mx_okL tb_cl tb_GT tb_NW tb_MT tm_X5_lengthOfRow := ⟨List.forall_mem_cons.mpr ⟨⟨(RX5, TX5, 14), rfl, by decide, tf_X5_12⟩, fun _ h => absurd h List.not_mem_nil⟩, fun _ h => absurd h List.not_mem_nil, fun _ h => absurd h List.not_mem_nil, fun _ h => absurd h List.not_mem_nil, List.forall_mem_cons.mpr ⟨Or.inr (Or.inr (Or.inr (Or.inr ⟨by decide, fun M1 h1 => by have h2 : M1 = tm_X4_cell := (Option.some.inj (h1.symm.trans tn_X4_cell)); subst h2; exact Or.inl tj_X5_170⟩))), fun _ h => absurd h List.not_mem_nil⟩⟩
set_option maxRecDepth 100000 in
theorem tw_X5_lengthOfRow_code : Jvm.Cond.code yX5_lengthOfRow cX5_lengthOfRow 2 (some .int) ∈ tb_GT := tb_mem 333 (rfl) rfl
theorem tw_X5_lengthOfRow_inst : Jvm.Cond.instanceMethod yX5_lengthOfRow ∈ tb_GT := tb_mem 332 (by decide +kernel) rfl
theorem tw_X5_lengthOfRow_sel : Jvm.Cond.selects RX5 yX5_lengthOfRow yX5_lengthOfRow ∈ tb_GT := tb_mem 10 (by decide +kernel) rfl
theorem tY_X5_lengthOfRow : mx_okY tb_cl tb_GT tm_X5_lengthOfRow := ⟨by decide +kernel, rfl, tw_X5_lengthOfRow_code, ti_X5, by decide +kernel, by decide +kernel, by decide +kernel, by decide, fun h => absurd h (by decide), fun _ => ⟨tw_X5_lengthOfRow_inst, tw_X5_lengthOfRow_sel, ⟨(RX5, TX5, 14), rfl, rfl⟩⟩, fun h => absurd h (by decide)⟩
theorem tj_X5_185 : Jvm.Cond.methodLink RX5 185 yX4_hasCell ∈ tb_GT := tb_mem 498 (by decide +kernel) rfl
theorem tL_X5_octet : mx_okL tb_cl tb_GT tb_NW tb_MT tm_X5_octet := ⟨List.forall_mem_cons.mpr ⟨⟨(RX5, TX5, 14), rfl, by decide, tf_X5_12⟩, fun _ h => absurd h List.not_mem_nil⟩, fun _ h => absurd h List.not_mem_nil, fun _ h => absurd h List.not_mem_nil, fun _ h => absurd h List.not_mem_nil, List.forall_mem_cons.mpr ⟨Or.inr (Or.inr (Or.inr (Or.inr ⟨by decide, fun M1 h1 => by have h2 : M1 = tm_X4_hasCell := (Option.some.inj (h1.symm.trans tn_X4_hasCell)); subst h2; exact Or.inl tj_X5_185⟩))), List.forall_mem_cons.mpr ⟨Or.inr (Or.inr (Or.inr (Or.inr ⟨by decide, fun M1 h1 => by have h2 : M1 = tm_X4_cell := (Option.some.inj (h1.symm.trans tn_X4_cell)); subst h2; exact Or.inl tj_X5_170⟩))), fun _ h => absurd h List.not_mem_nil⟩⟩⟩
set_option maxRecDepth 100000 in
theorem tw_X5_octet_code : Jvm.Cond.code yX5_octet cX5_octet 3 (some .int) ∈ tb_GT := tb_mem 506 (rfl) rfl
theorem tw_X5_octet_inst : Jvm.Cond.instanceMethod yX5_octet ∈ tb_GT := tb_mem 504 (by decide +kernel) rfl
theorem tw_X5_octet_sel : Jvm.Cond.selects RX5 yX5_octet yX5_octet ∈ tb_GT := tb_mem 505 (by decide +kernel) rfl
theorem tY_X5_octet : mx_okY tb_cl tb_GT tm_X5_octet := ⟨by decide +kernel, rfl, tw_X5_octet_code, ti_X5, by decide +kernel, by decide +kernel, by decide +kernel, by decide, fun h => absurd h (by decide), fun _ => ⟨tw_X5_octet_inst, tw_X5_octet_sel, ⟨(RX5, TX5, 14), rfl, rfl⟩⟩, fun h => absurd h (by decide)⟩
theorem tj_X5_205 : Jvm.Cond.methodLink RX5 205 yX4_count ∈ tb_GT := tb_mem 216 (by decide +kernel) rfl
theorem tL_X5_sectorsLeft : mx_okL tb_cl tb_GT tb_NW tb_MT tm_X5_sectorsLeft := ⟨List.forall_mem_cons.mpr ⟨⟨(RX5, TX5, 14), rfl, by decide, tf_X5_12⟩, List.forall_mem_cons.mpr ⟨⟨(RX5, TX5, 14), rfl, by decide, tf_X5_50⟩, fun _ h => absurd h List.not_mem_nil⟩⟩, fun _ h => absurd h List.not_mem_nil, fun _ h => absurd h List.not_mem_nil, fun _ h => absurd h List.not_mem_nil, List.forall_mem_cons.mpr ⟨Or.inr (Or.inr (Or.inr (Or.inr ⟨by decide, fun M1 h1 => by have h2 : M1 = tm_X4_count := (Option.some.inj (h1.symm.trans tn_X4_count)); subst h2; exact Or.inl tj_X5_205⟩))), fun _ h => absurd h List.not_mem_nil⟩⟩
set_option maxRecDepth 100000 in
theorem tw_X5_sectorsLeft_code : Jvm.Cond.code yX5_sectorsLeft cX5_sectorsLeft 1 (some .int) ∈ tb_GT := tb_mem 215 (rfl) rfl
theorem tw_X5_sectorsLeft_inst : Jvm.Cond.instanceMethod yX5_sectorsLeft ∈ tb_GT := tb_mem 214 (by decide +kernel) rfl
theorem tw_X5_sectorsLeft_sel : Jvm.Cond.selects RX5 yX5_sectorsLeft yX5_sectorsLeft ∈ tb_GT := tb_mem 1 (by decide +kernel) rfl
theorem tY_X5_sectorsLeft : mx_okY tb_cl tb_GT tm_X5_sectorsLeft := ⟨by decide +kernel, rfl, tw_X5_sectorsLeft_code, ti_X5, by decide +kernel, by decide +kernel, by decide +kernel, by decide, fun h => absurd h (by decide), fun _ => ⟨tw_X5_sectorsLeft_inst, tw_X5_sectorsLeft_sel, ⟨(RX5, TX5, 14), rfl, rfl⟩⟩, fun h => absurd h (by decide)⟩
theorem tf_X5_109 : Jvm.Cond.fieldLink RX5 109 "PackDisk" "generation" "I" ∈ tb_GT := tb_mem 170 (by decide +kernel) rfl
theorem tf_X5_144 : Jvm.Cond.fieldLink RX5 144 "PackDisk" "repaired" "I" ∈ tb_GT := tb_mem 173 (by decide +kernel) rfl
theorem tf_X5_199 : Jvm.Cond.fieldLink RX5 199 "PackDisk" "found" "I" ∈ tb_GT := tb_mem 174 (by decide +kernel) rfl
theorem tj_X5_125 : Jvm.Cond.methodLink RX5 125 yX3_size ∈ tb_GT := tb_mem 376 (by decide +kernel) rfl
theorem tj_X5_202 : Jvm.Cond.methodLink RX5 202 yX4_countLost ∈ tb_GT := tb_mem 523 (by decide +kernel) rfl
theorem tL_X5_told : mx_okL tb_cl tb_GT tb_NW tb_MT tm_X5_told := ⟨List.forall_mem_cons.mpr ⟨⟨(RX5, TX5, 14), rfl, by decide, tf_X5_46⟩, List.forall_mem_cons.mpr ⟨⟨(RX5, TX5, 14), rfl, by decide, tf_X5_50⟩, List.forall_mem_cons.mpr ⟨⟨(RX5, TX5, 14), rfl, by decide, tf_X5_65⟩, List.forall_mem_cons.mpr ⟨⟨(RX5, TX5, 14), rfl, by decide, tf_X5_109⟩, List.forall_mem_cons.mpr ⟨⟨(RX5, TX5, 14), rfl, by decide, tf_X5_21⟩, List.forall_mem_cons.mpr ⟨⟨(RX5, TX5, 14), rfl, by decide, tf_X5_144⟩, List.forall_mem_cons.mpr ⟨⟨(RX5, TX5, 14), rfl, by decide, tf_X5_199⟩, List.forall_mem_cons.mpr ⟨⟨(RX5, TX5, 14), rfl, by decide, tf_X5_54⟩, List.forall_mem_cons.mpr ⟨⟨(RX5, TX5, 14), rfl, by decide, tf_X5_12⟩, fun _ h => absurd h List.not_mem_nil⟩⟩⟩⟩⟩⟩⟩⟩⟩, fun _ h => absurd h List.not_mem_nil, fun _ h => absurd h List.not_mem_nil, fun _ h => absurd h List.not_mem_nil, List.forall_mem_cons.mpr ⟨Or.inr (Or.inr (Or.inr (Or.inr ⟨by decide, fun M1 h1 => by have h2 : M1 = tm_X3_size := (Option.some.inj (h1.symm.trans tn_X3_size)); subst h2; exact Or.inl tj_X5_125⟩))), List.forall_mem_cons.mpr ⟨Or.inr (Or.inr (Or.inr (Or.inr ⟨by decide, fun M1 h1 => by have h2 : M1 = tm_X4_countLost := (Option.some.inj (h1.symm.trans tn_X4_countLost)); subst h2; exact Or.inl tj_X5_202⟩))), List.forall_mem_cons.mpr ⟨Or.inr (Or.inr (Or.inr (Or.inr ⟨by decide, fun M1 h1 => by have h2 : M1 = tm_X4_count := (Option.some.inj (h1.symm.trans tn_X4_count)); subst h2; exact Or.inl tj_X5_205⟩))), fun _ h => absurd h List.not_mem_nil⟩⟩⟩⟩
set_option maxRecDepth 100000 in
theorem tw_X5_told_code : Jvm.Cond.code yX5_told cX5_told 2 (some .int) ∈ tb_GT := tb_mem 522 (rfl) rfl
theorem tw_X5_told_inst : Jvm.Cond.instanceMethod yX5_told ∈ tb_GT := tb_mem 520 (by decide +kernel) rfl
theorem tw_X5_told_sel : Jvm.Cond.selects RX5 yX5_told yX5_told ∈ tb_GT := tb_mem 521 (by decide +kernel) rfl
theorem tY_X5_told : mx_okY tb_cl tb_GT tm_X5_told := ⟨by decide +kernel, rfl, tw_X5_told_code, ti_X5, by decide +kernel, by decide +kernel, by decide +kernel, by decide, fun h => absurd h (by decide), fun _ => ⟨tw_X5_told_inst, tw_X5_told_sel, ⟨(RX5, TX5, 14), rfl, rfl⟩⟩, fun h => absurd h (by decide)⟩
theorem tl_X6_119 : Jvm.Cond.constantLong RX6 119 (255) ∈ tb_GT := tb_mem 713 (by decide +kernel) rfl
theorem tj_X6_73 : Jvm.Cond.methodLink RX6 73 yX6_in ∈ tb_GT := tb_mem 706 (by decide +kernel) rfl
theorem tL_X6_add : mx_okL tb_cl tb_GT tb_NW tb_MT tm_X6_add := ⟨List.forall_mem_cons.mpr ⟨⟨(RX6, TX6, 27), rfl, by decide, tf_X6_70⟩, List.forall_mem_cons.mpr ⟨⟨(RX6, TX6, 27), rfl, by decide, tf_X6_17⟩, List.forall_mem_cons.mpr ⟨⟨(RX6, TX6, 27), rfl, by decide, tf_X6_25⟩, List.forall_mem_cons.mpr ⟨⟨(RX6, TX6, 27), rfl, by decide, tf_X6_116⟩, List.forall_mem_cons.mpr ⟨⟨(RX6, TX6, 27), rfl, by decide, tf_X6_28⟩, fun _ h => absurd h List.not_mem_nil⟩⟩⟩⟩⟩, fun _ h => absurd h List.not_mem_nil, fun _ h => absurd h List.not_mem_nil, List.forall_mem_cons.mpr ⟨tl_X6_119, fun _ h => absurd h List.not_mem_nil⟩, List.forall_mem_cons.mpr ⟨Or.inr (Or.inr (Or.inr (Or.inr ⟨by decide, fun M1 h1 => by have h2 : M1 = tm_X6_in := (Option.some.inj (h1.symm.trans tn_X6_in)); subst h2; exact Or.inl tj_X6_73⟩))), fun _ h => absurd h List.not_mem_nil⟩⟩
set_option maxRecDepth 100000 in
theorem tw_X6_add_code : Jvm.Cond.code yX6_add cX6_add 5 (some .int) ∈ tb_GT := tb_mem 712 (rfl) rfl
theorem tw_X6_add_inst : Jvm.Cond.instanceMethod yX6_add ∈ tb_GT := tb_mem 710 (by decide +kernel) rfl
theorem tw_X6_add_sel : Jvm.Cond.selects RX6 yX6_add yX6_add ∈ tb_GT := tb_mem 711 (by decide +kernel) rfl
theorem tY_X6_add : mx_okY tb_cl tb_GT tm_X6_add := ⟨by decide +kernel, rfl, tw_X6_add_code, ti_X6, by decide +kernel, by decide +kernel, by decide +kernel, by decide, fun h => absurd h (by decide), fun _ => ⟨tw_X6_add_inst, tw_X6_add_sel, ⟨(RX6, TX6, 27), rfl, rfl⟩⟩, fun h => absurd h (by decide)⟩
theorem tj_X6_103 : Jvm.Cond.methodLink RX6 103 yX6_sizeAt ∈ tb_GT := tb_mem 766 (by decide +kernel) rfl
theorem tL_X6_blocksAt : mx_okL tb_cl tb_GT tb_NW tb_MT tm_X6_blocksAt := ⟨fun _ h => absurd h List.not_mem_nil, fun _ h => absurd h List.not_mem_nil, fun _ h => absurd h List.not_mem_nil, fun _ h => absurd h List.not_mem_nil, List.forall_mem_cons.mpr ⟨Or.inr (Or.inr (Or.inr (Or.inr ⟨by decide, fun M1 h1 => by have h2 : M1 = tm_X6_sizeAt := (Option.some.inj (h1.symm.trans tn_X6_sizeAt)); subst h2; exact Or.inl tj_X6_103⟩))), fun _ h => absurd h List.not_mem_nil⟩⟩
set_option maxRecDepth 100000 in
theorem tw_X6_blocksAt_code : Jvm.Cond.code yX6_blocksAt cX6_blocksAt 2 (some .int) ∈ tb_GT := tb_mem 765 (rfl) rfl
theorem tw_X6_blocksAt_inst : Jvm.Cond.instanceMethod yX6_blocksAt ∈ tb_GT := tb_mem 764 (by decide +kernel) rfl
theorem tw_X6_blocksAt_sel : Jvm.Cond.selects RX6 yX6_blocksAt yX6_blocksAt ∈ tb_GT := tb_mem 39 (by decide +kernel) rfl
theorem tY_X6_blocksAt : mx_okY tb_cl tb_GT tm_X6_blocksAt := ⟨by decide +kernel, rfl, tw_X6_blocksAt_code, ti_X6, by decide +kernel, by decide +kernel, by decide +kernel, by decide, fun h => absurd h (by decide), fun _ => ⟨tw_X6_blocksAt_inst, tw_X6_blocksAt_sel, ⟨(RX6, TX6, 27), rfl, rfl⟩⟩, fun h => absurd h (by decide)⟩
theorem tj_X6_121 : Jvm.Cond.methodLink RX6 121 yX6_begin ∈ tb_GT := tb_mem 722 (by decide +kernel) rfl
theorem tL_X6_head : mx_okL tb_cl tb_GT tb_NW tb_MT tm_X6_head := ⟨List.forall_mem_cons.mpr ⟨⟨(RX6, TX6, 27), rfl, by decide, tf_X6_40⟩, List.forall_mem_cons.mpr ⟨⟨(RX6, TX6, 27), rfl, by decide, tf_X6_21⟩, List.forall_mem_cons.mpr ⟨⟨(RX6, TX6, 27), rfl, by decide, tf_X6_100⟩, fun _ h => absurd h List.not_mem_nil⟩⟩⟩, fun _ h => absurd h List.not_mem_nil, fun _ h => absurd h List.not_mem_nil, fun _ h => absurd h List.not_mem_nil, List.forall_mem_cons.mpr ⟨Or.inr (Or.inr (Or.inr (Or.inr ⟨by decide, fun M1 h1 => by have h2 : M1 = tm_X6_begin := (Option.some.inj (h1.symm.trans tn_X6_begin)); subst h2; exact Or.inl tj_X6_121⟩))), fun _ h => absurd h List.not_mem_nil⟩⟩
set_option maxRecDepth 100000 in
theorem tw_X6_head_code : Jvm.Cond.code yX6_head cX6_head 3 none ∈ tb_GT := tb_mem 798 (rfl) rfl
theorem tw_X6_head_inst : Jvm.Cond.instanceMethod yX6_head ∈ tb_GT := tb_mem 797 (by decide +kernel) rfl
theorem tw_X6_head_sel : Jvm.Cond.selects RX6 yX6_head yX6_head ∈ tb_GT := tb_mem 44 (by decide +kernel) rfl
theorem tY_X6_head : mx_okY tb_cl tb_GT tm_X6_head := ⟨by decide +kernel, rfl, tw_X6_head_code, ti_X6, by decide +kernel, by decide +kernel, by decide +kernel, by decide, fun h => absurd h (by decide), fun _ => ⟨tw_X6_head_inst, tw_X6_head_sel, ⟨(RX6, TX6, 27), rfl, rfl⟩⟩, fun h => absurd h (by decide)⟩
theorem tL_X6_isRow : mx_okL tb_cl tb_GT tb_NW tb_MT tm_X6_isRow := ⟨List.forall_mem_cons.mpr ⟨⟨(RX6, TX6, 27), rfl, by decide, tf_X6_100⟩, fun _ h => absurd h List.not_mem_nil⟩, fun _ h => absurd h List.not_mem_nil, fun _ h => absurd h List.not_mem_nil, fun _ h => absurd h List.not_mem_nil, List.forall_mem_cons.mpr ⟨Or.inr (Or.inr (Or.inr (Or.inr ⟨by decide, fun M1 h1 => by have h2 : M1 = tm_X6_in := (Option.some.inj (h1.symm.trans tn_X6_in)); subst h2; exact Or.inl tj_X6_73⟩))), fun _ h => absurd h List.not_mem_nil⟩⟩
set_option maxRecDepth 100000 in
theorem tw_X6_isRow_code : Jvm.Cond.code yX6_isRow cX6_isRow 2 (some .boolean) ∈ tb_GT := tb_mem 753 (rfl) rfl
theorem tw_X6_isRow_inst : Jvm.Cond.instanceMethod yX6_isRow ∈ tb_GT := tb_mem 752 (by decide +kernel) rfl
theorem tw_X6_isRow_sel : Jvm.Cond.selects RX6 yX6_isRow yX6_isRow ∈ tb_GT := tb_mem 36 (by decide +kernel) rfl
theorem tY_X6_isRow : mx_okY tb_cl tb_GT tm_X6_isRow := ⟨by decide +kernel, rfl, tw_X6_isRow_code, ti_X6, by decide +kernel, by decide +kernel, by decide +kernel, by decide, fun h => absurd h (by decide), fun _ => ⟨tw_X6_isRow_inst, tw_X6_isRow_sel, ⟨(RX6, TX6, 27), rfl, rfl⟩⟩, fun h => absurd h (by decide)⟩
theorem tL_X6_isSector : mx_okL tb_cl tb_GT tb_NW tb_MT tm_X6_isSector := ⟨List.forall_mem_cons.mpr ⟨⟨(RX6, TX6, 27), rfl, by decide, tf_X6_67⟩, fun _ h => absurd h List.not_mem_nil⟩, fun _ h => absurd h List.not_mem_nil, fun _ h => absurd h List.not_mem_nil, fun _ h => absurd h List.not_mem_nil, List.forall_mem_cons.mpr ⟨Or.inr (Or.inr (Or.inr (Or.inr ⟨by decide, fun M1 h1 => by have h2 : M1 = tm_X6_in := (Option.some.inj (h1.symm.trans tn_X6_in)); subst h2; exact Or.inl tj_X6_73⟩))), fun _ h => absurd h List.not_mem_nil⟩⟩
set_option maxRecDepth 100000 in
theorem tw_X6_isSector_code : Jvm.Cond.code yX6_isSector cX6_isSector 2 (some .boolean) ∈ tb_GT := tb_mem 861 (rfl) rfl
theorem tw_X6_isSector_inst : Jvm.Cond.instanceMethod yX6_isSector ∈ tb_GT := tb_mem 860 (by decide +kernel) rfl
theorem tw_X6_isSector_sel : Jvm.Cond.selects RX6 yX6_isSector yX6_isSector ∈ tb_GT := tb_mem 54 (by decide +kernel) rfl
theorem tY_X6_isSector : mx_okY tb_cl tb_GT tm_X6_isSector := ⟨by decide +kernel, rfl, tw_X6_isSector_code, ti_X6, by decide +kernel, by decide +kernel, by decide +kernel, by decide, fun h => absurd h (by decide), fun _ => ⟨tw_X6_isSector_inst, tw_X6_isSector_sel, ⟨(RX6, TX6, 27), rfl, rfl⟩⟩, fun h => absurd h (by decide)⟩
theorem tL_X6_open : mx_okL tb_cl tb_GT tb_NW tb_MT tm_X6_open := ⟨List.forall_mem_cons.mpr ⟨⟨(RX6, TX6, 27), rfl, by decide, tf_X6_70⟩, List.forall_mem_cons.mpr ⟨⟨(RX6, TX6, 27), rfl, by decide, tf_X6_17⟩, List.forall_mem_cons.mpr ⟨⟨(RX6, TX6, 27), rfl, by decide, tf_X6_25⟩, List.forall_mem_cons.mpr ⟨⟨(RX6, TX6, 27), rfl, by decide, tf_X6_67⟩, List.forall_mem_cons.mpr ⟨⟨(RX6, TX6, 27), rfl, by decide, tf_X6_21⟩, List.forall_mem_cons.mpr ⟨⟨(RX6, TX6, 27), rfl, by decide, tf_X6_100⟩, List.forall_mem_cons.mpr ⟨⟨(RX6, TX6, 27), rfl, by decide, tf_X6_116⟩, fun _ h => absurd h List.not_mem_nil⟩⟩⟩⟩⟩⟩⟩, fun _ h => absurd h List.not_mem_nil, fun _ h => absurd h List.not_mem_nil, fun _ h => absurd h List.not_mem_nil, List.forall_mem_cons.mpr ⟨Or.inr (Or.inr (Or.inr (Or.inr ⟨by decide, fun M1 h1 => by have h2 : M1 = tm_X6_in := (Option.some.inj (h1.symm.trans tn_X6_in)); subst h2; exact Or.inl tj_X6_73⟩))), fun _ h => absurd h List.not_mem_nil⟩⟩
set_option maxRecDepth 100000 in
theorem tw_X6_open_code : Jvm.Cond.code yX6_open cX6_open 2 (some .int) ∈ tb_GT := tb_mem 705 (rfl) rfl
theorem tw_X6_open_inst : Jvm.Cond.instanceMethod yX6_open ∈ tb_GT := tb_mem 703 (by decide +kernel) rfl
theorem tw_X6_open_sel : Jvm.Cond.selects RX6 yX6_open yX6_open ∈ tb_GT := tb_mem 704 (by decide +kernel) rfl
theorem tY_X6_open : mx_okY tb_cl tb_GT tm_X6_open := ⟨by decide +kernel, rfl, tw_X6_open_code, ti_X6, by decide +kernel, by decide +kernel, by decide +kernel, by decide, fun h => absurd h (by decide), fun _ => ⟨tw_X6_open_inst, tw_X6_open_sel, ⟨(RX6, TX6, 27), rfl, rfl⟩⟩, fun h => absurd h (by decide)⟩
theorem tj_X6_135 : Jvm.Cond.methodLink RX6 135 yX6_twice ∈ tb_GT := tb_mem 788 (by decide +kernel) rfl
theorem tL_X6_product : mx_okL tb_cl tb_GT tb_NW tb_MT tm_X6_product := ⟨fun _ h => absurd h List.not_mem_nil, fun _ h => absurd h List.not_mem_nil, fun _ h => absurd h List.not_mem_nil, fun _ h => absurd h List.not_mem_nil, List.forall_mem_cons.mpr ⟨Or.inr (Or.inr (Or.inr (Or.inr ⟨by decide, fun M1 h1 => by have h2 : M1 = tm_X6_twice := (Option.some.inj (h1.symm.trans tn_X6_twice)); subst h2; exact Or.inl tj_X6_135⟩))), fun _ h => absurd h List.not_mem_nil⟩⟩
set_option maxRecDepth 100000 in
theorem tw_X6_product_code : Jvm.Cond.code yX6_product cX6_product 5 (some .int) ∈ tb_GT := tb_mem 787 (rfl) rfl
theorem tw_X6_product_static : Jvm.Cond.static yX6_product ∈ tb_GT := tb_mem 786 (by decide +kernel) rfl
theorem tY_X6_product : mx_okY tb_cl tb_GT tm_X6_product := ⟨by decide +kernel, rfl, tw_X6_product_code, ti_X6, by decide +kernel, by decide +kernel, by decide +kernel, by decide, fun _ => tw_X6_product_static, fun h => absurd h (by decide), fun h => absurd h (by decide)⟩
theorem tj_X6_78 : Jvm.Cond.methodLink RX6 78 yX6_sumOf ∈ tb_GT := tb_mem 730 (by decide +kernel) rfl
theorem tL_X6_seal : mx_okL tb_cl tb_GT tb_NW tb_MT tm_X6_seal := ⟨List.forall_mem_cons.mpr ⟨⟨(RX6, TX6, 27), rfl, by decide, tf_X6_40⟩, fun _ h => absurd h List.not_mem_nil⟩, fun _ h => absurd h List.not_mem_nil, fun _ h => absurd h List.not_mem_nil, fun _ h => absurd h List.not_mem_nil, List.forall_mem_cons.mpr ⟨Or.inr (Or.inr (Or.inr (Or.inr ⟨by decide, fun M1 h1 => by have h2 : M1 = tm_X6_sumOf := (Option.some.inj (h1.symm.trans tn_X6_sumOf)); subst h2; exact Or.inl tj_X6_78⟩))), fun _ h => absurd h List.not_mem_nil⟩⟩
set_option maxRecDepth 100000 in
theorem tw_X6_seal_code : Jvm.Cond.code yX6_seal cX6_seal 3 none ∈ tb_GT := tb_mem 745 (rfl) rfl
theorem tw_X6_seal_inst : Jvm.Cond.instanceMethod yX6_seal ∈ tb_GT := tb_mem 744 (by decide +kernel) rfl
theorem tw_X6_seal_sel : Jvm.Cond.selects RX6 yX6_seal yX6_seal ∈ tb_GT := tb_mem 35 (by decide +kernel) rfl
theorem tY_X6_seal : mx_okY tb_cl tb_GT tm_X6_seal := ⟨by decide +kernel, rfl, tw_X6_seal_code, ti_X6, by decide +kernel, by decide +kernel, by decide +kernel, by decide, fun h => absurd h (by decide), fun _ => ⟨tw_X6_seal_inst, tw_X6_seal_sel, ⟨(RX6, TX6, 27), rfl, rfl⟩⟩, fun h => absurd h (by decide)⟩
theorem tL_X6_sortOf : mx_okL tb_cl tb_GT tb_NW tb_MT tm_X6_sortOf := ⟨List.forall_mem_cons.mpr ⟨⟨(RX6, TX6, 27), rfl, by decide, tf_X6_7⟩, List.forall_mem_cons.mpr ⟨⟨(RX6, TX6, 27), rfl, by decide, tf_X6_13⟩, fun _ h => absurd h List.not_mem_nil⟩⟩, fun _ h => absurd h List.not_mem_nil, fun _ h => absurd h List.not_mem_nil, fun _ h => absurd h List.not_mem_nil, List.forall_mem_cons.mpr ⟨Or.inr (Or.inr (Or.inr (Or.inr ⟨by decide, fun M1 h1 => by have h2 : M1 = tm_X6_in := (Option.some.inj (h1.symm.trans tn_X6_in)); subst h2; exact Or.inl tj_X6_73⟩))), List.forall_mem_cons.mpr ⟨Or.inr (Or.inr (Or.inr (Or.inr ⟨by decide, fun M1 h1 => by have h2 : M1 = tm_X6_sumOf := (Option.some.inj (h1.symm.trans tn_X6_sumOf)); subst h2; exact Or.inl tj_X6_78⟩))), fun _ h => absurd h List.not_mem_nil⟩⟩⟩
set_option maxRecDepth 100000 in
theorem tw_X6_sortOf_code : Jvm.Cond.code yX6_sortOf cX6_sortOf 4 (some .int) ∈ tb_GT := tb_mem 729 (rfl) rfl
theorem tw_X6_sortOf_inst : Jvm.Cond.instanceMethod yX6_sortOf ∈ tb_GT := tb_mem 728 (by decide +kernel) rfl
theorem tw_X6_sortOf_sel : Jvm.Cond.selects RX6 yX6_sortOf yX6_sortOf ∈ tb_GT := tb_mem 32 (by decide +kernel) rfl
theorem tY_X6_sortOf : mx_okY tb_cl tb_GT tm_X6_sortOf := ⟨by decide +kernel, rfl, tw_X6_sortOf_code, ti_X6, by decide +kernel, by decide +kernel, by decide +kernel, by decide, fun h => absurd h (by decide), fun _ => ⟨tw_X6_sortOf_inst, tw_X6_sortOf_sel, ⟨(RX6, TX6, 27), rfl, rfl⟩⟩, fun h => absurd h (by decide)⟩
theorem tj_X1_13 : Jvm.Cond.methodLink RX1 13 yX1_times ∈ tb_GT := tb_mem 464 (by decide +kernel) rfl
theorem tL_X1_inverse : mx_okL tb_cl tb_GT tb_NW tb_MT tm_X1_inverse := ⟨fun _ h => absurd h List.not_mem_nil, fun _ h => absurd h List.not_mem_nil, fun _ h => absurd h List.not_mem_nil, fun _ h => absurd h List.not_mem_nil, List.forall_mem_cons.mpr ⟨Or.inr (Or.inr (Or.inr (Or.inr ⟨by decide, fun M1 h1 => by have h2 : M1 = tm_X1_times := (Option.some.inj (h1.symm.trans tn_X1_times)); subst h2; exact Or.inl tj_X1_13⟩))), fun _ h => absurd h List.not_mem_nil⟩⟩
set_option maxRecDepth 100000 in
theorem tw_X1_inverse_code : Jvm.Cond.code yX1_inverse cX1_inverse 2 (some .int) ∈ tb_GT := tb_mem 463 (rfl) rfl
theorem tw_X1_inverse_static : Jvm.Cond.static yX1_inverse ∈ tb_GT := tb_mem 462 (by decide +kernel) rfl
theorem tY_X1_inverse : mx_okY tb_cl tb_GT tm_X1_inverse := ⟨by decide +kernel, rfl, tw_X1_inverse_code, ti_X1, by decide +kernel, by decide +kernel, by decide +kernel, by decide, fun _ => tw_X1_inverse_static, fun h => absurd h (by decide), fun h => absurd h (by decide)⟩
theorem tf_X2_44 : Jvm.Cond.fieldLink RX2 44 "PackDisk$Gaps" "inverse" "I" ∈ tb_GT := tb_mem 147 (by decide +kernel) rfl
theorem tj_X2_34 : Jvm.Cond.methodLink RX2 34 yX1_times ∈ tb_GT := tb_mem 457 (by decide +kernel) rfl
theorem tL_X2_solve : mx_okL tb_cl tb_GT tb_NW tb_MT tm_X2_solve := ⟨List.forall_mem_cons.mpr ⟨⟨(RX2, TX2, 6), rfl, by decide, tf_X2_24⟩, List.forall_mem_cons.mpr ⟨⟨(RX2, TX2, 6), rfl, by decide, tf_X2_18⟩, List.forall_mem_cons.mpr ⟨⟨(RX2, TX2, 6), rfl, by decide, tf_X2_15⟩, List.forall_mem_cons.mpr ⟨⟨(RX2, TX2, 6), rfl, by decide, tf_X2_21⟩, List.forall_mem_cons.mpr ⟨⟨(RX2, TX2, 6), rfl, by decide, tf_X2_44⟩, fun _ h => absurd h List.not_mem_nil⟩⟩⟩⟩⟩, fun _ h => absurd h List.not_mem_nil, fun _ h => absurd h List.not_mem_nil, fun _ h => absurd h List.not_mem_nil, List.forall_mem_cons.mpr ⟨Or.inr (Or.inr (Or.inr (Or.inr ⟨by decide, fun M1 h1 => by have h2 : M1 = tm_X1_times := (Option.some.inj (h1.symm.trans tn_X1_times)); subst h2; exact Or.inl tj_X2_34⟩))), fun _ h => absurd h List.not_mem_nil⟩⟩
set_option maxRecDepth 100000 in
theorem tw_X2_solve_code : Jvm.Cond.code yX2_solve cX2_solve 6 (some .boolean) ∈ tb_GT := tb_mem 468 (rfl) rfl
theorem tw_X2_solve_inst : Jvm.Cond.instanceMethod yX2_solve ∈ tb_GT := tb_mem 466 (by decide +kernel) rfl
theorem tw_X2_solve_sel : Jvm.Cond.selects RX2 yX2_solve yX2_solve ∈ tb_GT := tb_mem 467 (by decide +kernel) rfl
theorem tY_X2_solve : mx_okY tb_cl tb_GT tm_X2_solve := ⟨by decide +kernel, rfl, tw_X2_solve_code, ti_X2, by decide +kernel, by decide +kernel, by decide +kernel, by decide, fun h => absurd h (by decide), fun _ => ⟨tw_X2_solve_inst, tw_X2_solve_sel, ⟨(RX2, TX2, 6), rfl, rfl⟩⟩, fun h => absurd h (by decide)⟩
theorem tj_X3_26 : Jvm.Cond.methodLink RX3 26 yX4_isLost ∈ tb_GT := tb_mem 297 (by decide +kernel) rfl
theorem tj_X3_32 : Jvm.Cond.methodLink RX3 32 yX4_copyTo ∈ tb_GT := tb_mem 301 (by decide +kernel) rfl
theorem tL_X3_note : mx_okL tb_cl tb_GT tb_NW tb_MT tm_X3_note := ⟨List.forall_mem_cons.mpr ⟨⟨(RX3, TX3, 4), rfl, by decide, tf_X3_22⟩, List.forall_mem_cons.mpr ⟨⟨(RX3, TX3, 4), rfl, by decide, tf_X3_9⟩, List.forall_mem_cons.mpr ⟨⟨(RX3, TX3, 4), rfl, by decide, tf_X3_18⟩, List.forall_mem_cons.mpr ⟨⟨(RX3, TX3, 4), rfl, by decide, tf_X3_15⟩, fun _ h => absurd h List.not_mem_nil⟩⟩⟩⟩, fun _ h => absurd h List.not_mem_nil, fun _ h => absurd h List.not_mem_nil, fun _ h => absurd h List.not_mem_nil, List.forall_mem_cons.mpr ⟨Or.inr (Or.inr (Or.inr (Or.inr ⟨by decide, fun M1 h1 => by have h2 : M1 = tm_X4_isLost := (Option.some.inj (h1.symm.trans tn_X4_isLost)); subst h2; exact Or.inl tj_X3_26⟩))), List.forall_mem_cons.mpr ⟨Or.inr (Or.inr (Or.inr (Or.inr ⟨by decide, fun M1 h1 => by have h2 : M1 = tm_X4_copyTo := (Option.some.inj (h1.symm.trans tn_X4_copyTo)); subst h2; exact Or.inl tj_X3_32⟩))), fun _ h => absurd h List.not_mem_nil⟩⟩⟩
set_option maxRecDepth 100000 in
theorem tw_X3_note_code : Jvm.Cond.code yX3_note cX3_note 3 none ∈ tb_GT := tb_mem 296 (rfl) rfl
theorem tw_X3_note_inst : Jvm.Cond.instanceMethod yX3_note ∈ tb_GT := tb_mem 294 (by decide +kernel) rfl
theorem tw_X3_note_sel : Jvm.Cond.selects RX3 yX3_note yX3_note ∈ tb_GT := tb_mem 295 (by decide +kernel) rfl
theorem tY_X3_note : mx_okY tb_cl tb_GT tm_X3_note := ⟨by decide +kernel, rfl, tw_X3_note_code, ti_X3, by decide +kernel, by decide +kernel, by decide +kernel, by decide, fun h => absurd h (by decide), fun _ => ⟨tw_X3_note_inst, tw_X3_note_sel, ⟨(RX3, TX3, 4), rfl, rfl⟩⟩, fun h => absurd h (by decide)⟩
theorem tj_X4_47 : Jvm.Cond.methodLink RX4 47 yX4_hasCell ∈ tb_GT := tb_mem 392 (by decide +kernel) rfl
theorem tj_X4_51 : Jvm.Cond.methodLink RX4 51 yX4_judge ∈ tb_GT := tb_mem 312 (by decide +kernel) rfl
theorem tL_X4_flip : mx_okL tb_cl tb_GT tb_NW tb_MT tm_X4_flip := ⟨List.forall_mem_cons.mpr ⟨⟨(RX4, TX4, 4), rfl, by decide, tf_X4_24⟩, fun _ h => absurd h List.not_mem_nil⟩, fun _ h => absurd h List.not_mem_nil, fun _ h => absurd h List.not_mem_nil, fun _ h => absurd h List.not_mem_nil, List.forall_mem_cons.mpr ⟨Or.inr (Or.inr (Or.inr (Or.inr ⟨by decide, fun M1 h1 => by have h2 : M1 = tm_X4_hasCell := (Option.some.inj (h1.symm.trans tn_X4_hasCell)); subst h2; exact Or.inl tj_X4_47⟩))), List.forall_mem_cons.mpr ⟨Or.inr (Or.inr (Or.inr (Or.inr ⟨by decide, fun M1 h1 => by have h2 : M1 = tm_X4_judge := (Option.some.inj (h1.symm.trans tn_X4_judge)); subst h2; exact Or.inl tj_X4_51⟩))), fun _ h => absurd h List.not_mem_nil⟩⟩⟩
set_option maxRecDepth 100000 in
theorem tw_X4_flip_code : Jvm.Cond.code yX4_flip cX4_flip 4 none ∈ tb_GT := tb_mem 502 (rfl) rfl
theorem tw_X4_flip_inst : Jvm.Cond.instanceMethod yX4_flip ∈ tb_GT := tb_mem 500 (by decide +kernel) rfl
theorem tw_X4_flip_sel : Jvm.Cond.selects RX4 yX4_flip yX4_flip ∈ tb_GT := tb_mem 501 (by decide +kernel) rfl
theorem tY_X4_flip : mx_okY tb_cl tb_GT tm_X4_flip := ⟨by decide +kernel, rfl, tw_X4_flip_code, ti_X4, by decide +kernel, by decide +kernel, by decide +kernel, by decide, fun h => absurd h (by decide), fun _ => ⟨tw_X4_flip_inst, tw_X4_flip_sel, ⟨(RX4, TX4, 4), rfl, rfl⟩⟩, fun h => absurd h (by decide)⟩
theorem tL_X4_store : mx_okL tb_cl tb_GT tb_NW tb_MT tm_X4_store := ⟨List.forall_mem_cons.mpr ⟨⟨(RX4, TX4, 4), rfl, by decide, tf_X4_24⟩, List.forall_mem_cons.mpr ⟨⟨(RX4, TX4, 4), rfl, by decide, tf_X4_28⟩, fun _ h => absurd h List.not_mem_nil⟩⟩, fun _ h => absurd h List.not_mem_nil, fun _ h => absurd h List.not_mem_nil, fun _ h => absurd h List.not_mem_nil, List.forall_mem_cons.mpr ⟨Or.inr (Or.inr (Or.inr (Or.inr ⟨by decide, fun M1 h1 => by have h2 : M1 = tm_X4_has := (Option.some.inj (h1.symm.trans tn_X4_has)); subst h2; exact Or.inl tj_X4_38⟩))), List.forall_mem_cons.mpr ⟨Or.inr (Or.inr (Or.inr (Or.inr ⟨by decide, fun M1 h1 => by have h2 : M1 = tm_X0_cell := (Option.some.inj (h1.symm.trans tn_X0_cell)); subst h2; exact Or.inl tj_X4_42⟩))), List.forall_mem_cons.mpr ⟨Or.inr (Or.inr (Or.inr (Or.inr ⟨by decide, fun M1 h1 => by have h2 : M1 = tm_X4_judge := (Option.some.inj (h1.symm.trans tn_X4_judge)); subst h2; exact Or.inl tj_X4_51⟩))), fun _ h => absurd h List.not_mem_nil⟩⟩⟩⟩
set_option maxRecDepth 100000 in
theorem tw_X4_store_code : Jvm.Cond.code yX4_store cX4_store 5 none ∈ tb_GT := tb_mem 311 (rfl) rfl
theorem tw_X4_store_inst : Jvm.Cond.instanceMethod yX4_store ∈ tb_GT := tb_mem 309 (by decide +kernel) rfl
theorem tw_X4_store_sel : Jvm.Cond.selects RX4 yX4_store yX4_store ∈ tb_GT := tb_mem 310 (by decide +kernel) rfl
theorem tY_X4_store : mx_okY tb_cl tb_GT tm_X4_store := ⟨by decide +kernel, rfl, tw_X4_store_code, ti_X4, by decide +kernel, by decide +kernel, by decide +kernel, by decide, fun h => absurd h (by decide), fun _ => ⟨tw_X4_store_inst, tw_X4_store_sel, ⟨(RX4, TX4, 4), rfl, rfl⟩⟩, fun h => absurd h (by decide)⟩
theorem tL_X4_takeBack : mx_okL tb_cl tb_GT tb_NW tb_MT tm_X4_takeBack := ⟨List.forall_mem_cons.mpr ⟨⟨(RX4, TX4, 4), rfl, by decide, tf_X4_24⟩, List.forall_mem_cons.mpr ⟨⟨(RX4, TX4, 4), rfl, by decide, tf_X4_28⟩, fun _ h => absurd h List.not_mem_nil⟩⟩, fun _ h => absurd h List.not_mem_nil, fun _ h => absurd h List.not_mem_nil, fun _ h => absurd h List.not_mem_nil, List.forall_mem_cons.mpr ⟨Or.inr (Or.inr (Or.inr (Or.inr ⟨by decide, fun M1 h1 => by have h2 : M1 = tm_X4_hasCell := (Option.some.inj (h1.symm.trans tn_X4_hasCell)); subst h2; exact Or.inl tj_X4_47⟩))), List.forall_mem_cons.mpr ⟨Or.inr (Or.inr (Or.inr (Or.inl ⟨rfl, tj_X4_55⟩))), List.forall_mem_cons.mpr ⟨Or.inr (Or.inr (Or.inr (Or.inr ⟨by decide, fun M1 h1 => by have h2 : M1 = tm_X4_judge := (Option.some.inj (h1.symm.trans tn_X4_judge)); subst h2; exact Or.inl tj_X4_51⟩))), fun _ h => absurd h List.not_mem_nil⟩⟩⟩⟩
set_option maxRecDepth 100000 in
theorem tw_X4_takeBack_code : Jvm.Cond.code yX4_takeBack cX4_takeBack 6 none ∈ tb_GT := tb_mem 391 (rfl) rfl
theorem tw_X4_takeBack_inst : Jvm.Cond.instanceMethod yX4_takeBack ∈ tb_GT := tb_mem 389 (by decide +kernel) rfl
theorem tw_X4_takeBack_sel : Jvm.Cond.selects RX4 yX4_takeBack yX4_takeBack ∈ tb_GT := tb_mem 390 (by decide +kernel) rfl
theorem tY_X4_takeBack : mx_okY tb_cl tb_GT tm_X4_takeBack := ⟨by decide +kernel, rfl, tw_X4_takeBack_code, ti_X4, by decide +kernel, by decide +kernel, by decide +kernel, by decide, fun h => absurd h (by decide), fun _ => ⟨tw_X4_takeBack_inst, tw_X4_takeBack_sel, ⟨(RX4, TX4, 4), rfl, rfl⟩⟩, fun h => absurd h (by decide)⟩
theorem tj_X5_150 : Jvm.Cond.methodLink RX5 150 yX5_lengthOfRow ∈ tb_GT := tb_mem 330 (by decide +kernel) rfl
theorem tj_X5_77 : Jvm.Cond.methodLink RX5 77 yX5_blocksForLength ∈ tb_GT := tb_mem 231 (by decide +kernel) rfl
theorem tL_X5_blocksOfRow : mx_okL tb_cl tb_GT tb_NW tb_MT tm_X5_blocksOfRow := ⟨fun _ h => absurd h List.not_mem_nil, fun _ h => absurd h List.not_mem_nil, fun _ h => absurd h List.not_mem_nil, fun _ h => absurd h List.not_mem_nil, List.forall_mem_cons.mpr ⟨Or.inr (Or.inr (Or.inr (Or.inr ⟨by decide, fun M1 h1 => by have h2 : M1 = tm_X5_lengthOfRow := (Option.some.inj (h1.symm.trans tn_X5_lengthOfRow)); subst h2; exact Or.inl tj_X5_150⟩))), List.forall_mem_cons.mpr ⟨Or.inr (Or.inr (Or.inr (Or.inr ⟨by decide, fun M1 h1 => by have h2 : M1 = tm_X5_blocksForLength := (Option.some.inj (h1.symm.trans tn_X5_blocksForLength)); subst h2; exact Or.inl tj_X5_77⟩))), fun _ h => absurd h List.not_mem_nil⟩⟩⟩
set_option maxRecDepth 100000 in
theorem tw_X5_blocksOfRow_code : Jvm.Cond.code yX5_blocksOfRow cX5_blocksOfRow 2 (some .int) ∈ tb_GT := tb_mem 341 (rfl) rfl
theorem tw_X5_blocksOfRow_inst : Jvm.Cond.instanceMethod yX5_blocksOfRow ∈ tb_GT := tb_mem 340 (by decide +kernel) rfl
theorem tw_X5_blocksOfRow_sel : Jvm.Cond.selects RX5 yX5_blocksOfRow yX5_blocksOfRow ∈ tb_GT := tb_mem 12 (by decide +kernel) rfl
theorem tY_X5_blocksOfRow : mx_okY tb_cl tb_GT tm_X5_blocksOfRow := ⟨by decide +kernel, rfl, tw_X5_blocksOfRow_code, ti_X5, by decide +kernel, by decide +kernel, by decide +kernel, by decide, fun h => absurd h (by decide), fun _ => ⟨tw_X5_blocksOfRow_inst, tw_X5_blocksOfRow_sel, ⟨(RX5, TX5, 14), rfl, rfl⟩⟩, fun h => absurd h (by decide)⟩
theorem tj_X5_84 : Jvm.Cond.methodLink RX5 84 yX0_begin ∈ tb_GT := tb_mem 239 (by decide +kernel) rfl
theorem tj_X5_88 : Jvm.Cond.methodLink RX5 88 yX0_setContent ∈ tb_GT := tb_mem 244 (by decide +kernel) rfl
theorem tj_X5_231 : Jvm.Cond.methodLink RX5 231 yX0_seal ∈ tb_GT := tb_mem 285 (by decide +kernel) rfl
theorem tL_X5_draftHead : mx_okL tb_cl tb_GT tb_NW tb_MT tm_X5_draftHead := ⟨List.forall_mem_cons.mpr ⟨⟨(RX5, TX5, 14), rfl, by decide, tf_X5_28⟩, List.forall_mem_cons.mpr ⟨⟨(RX5, TX5, 14), rfl, by decide, tf_X5_50⟩, List.forall_mem_cons.mpr ⟨⟨(RX5, TX5, 14), rfl, by decide, tf_X5_65⟩, fun _ h => absurd h List.not_mem_nil⟩⟩⟩, fun _ h => absurd h List.not_mem_nil, fun _ h => absurd h List.not_mem_nil, fun _ h => absurd h List.not_mem_nil, List.forall_mem_cons.mpr ⟨Or.inr (Or.inr (Or.inr (Or.inr ⟨by decide, fun M1 h1 => by have h2 : M1 = tm_X0_begin := (Option.some.inj (h1.symm.trans tn_X0_begin)); subst h2; exact Or.inl tj_X5_84⟩))), List.forall_mem_cons.mpr ⟨Or.inr (Or.inr (Or.inr (Or.inr ⟨by decide, fun M1 h1 => by have h2 : M1 = tm_X0_setContent := (Option.some.inj (h1.symm.trans tn_X0_setContent)); subst h2; exact Or.inl tj_X5_88⟩))), List.forall_mem_cons.mpr ⟨Or.inr (Or.inr (Or.inr (Or.inr ⟨by decide, fun M1 h1 => by have h2 : M1 = tm_X0_seal := (Option.some.inj (h1.symm.trans tn_X0_seal)); subst h2; exact Or.inl tj_X5_231⟩))), fun _ h => absurd h List.not_mem_nil⟩⟩⟩⟩
set_option maxRecDepth 100000 in
theorem tw_X5_draftHead_code : Jvm.Cond.code yX5_draftHead cX5_draftHead 3 none ∈ tb_GT := tb_mem 364 (rfl) rfl
theorem tw_X5_draftHead_inst : Jvm.Cond.instanceMethod yX5_draftHead ∈ tb_GT := tb_mem 363 (by decide +kernel) rfl
theorem tw_X5_draftHead_sel : Jvm.Cond.selects RX5 yX5_draftHead yX5_draftHead ∈ tb_GT := tb_mem 15 (by decide +kernel) rfl
theorem tY_X5_draftHead : mx_okY tb_cl tb_GT tm_X5_draftHead := ⟨by decide +kernel, rfl, tw_X5_draftHead_code, ti_X5, by decide +kernel, by decide +kernel, by decide +kernel, by decide, fun h => absurd h (by decide), fun _ => ⟨tw_X5_draftHead_inst, tw_X5_draftHead_sel, ⟨(RX5, TX5, 14), rfl, rfl⟩⟩, fun h => absurd h (by decide)⟩
theorem tj_X5_193 : Jvm.Cond.methodLink RX5 193 yX4_wholeSort ∈ tb_GT := tb_mem 260 (by decide +kernel) rfl
theorem tL_X5_extendLog : mx_okL tb_cl tb_GT tb_NW tb_MT tm_X5_extendLog := ⟨List.forall_mem_cons.mpr ⟨⟨(RX5, TX5, 14), rfl, by decide, tf_X5_12⟩, List.forall_mem_cons.mpr ⟨⟨(RX5, TX5, 14), rfl, by decide, tf_X5_50⟩, fun _ h => absurd h List.not_mem_nil⟩⟩, fun _ h => absurd h List.not_mem_nil, fun _ h => absurd h List.not_mem_nil, fun _ h => absurd h List.not_mem_nil, List.forall_mem_cons.mpr ⟨Or.inr (Or.inr (Or.inr (Or.inr ⟨by decide, fun M1 h1 => by have h2 : M1 = tm_X4_count := (Option.some.inj (h1.symm.trans tn_X4_count)); subst h2; exact Or.inl tj_X5_205⟩))), List.forall_mem_cons.mpr ⟨Or.inr (Or.inr (Or.inr (Or.inr ⟨by decide, fun M1 h1 => by have h2 : M1 = tm_X4_wholeSort := (Option.some.inj (h1.symm.trans tn_X4_wholeSort)); subst h2; exact Or.inl tj_X5_193⟩))), fun _ h => absurd h List.not_mem_nil⟩⟩⟩
set_option maxRecDepth 100000 in
theorem tw_X5_extendLog_code : Jvm.Cond.code yX5_extendLog cX5_extendLog 2 none ∈ tb_GT := tb_mem 419 (rfl) rfl
theorem tw_X5_extendLog_inst : Jvm.Cond.instanceMethod yX5_extendLog ∈ tb_GT := tb_mem 418 (by decide +kernel) rfl
theorem tw_X5_extendLog_sel : Jvm.Cond.selects RX5 yX5_extendLog yX5_extendLog ∈ tb_GT := tb_mem 21 (by decide +kernel) rfl
theorem tY_X5_extendLog : mx_okY tb_cl tb_GT tm_X5_extendLog := ⟨by decide +kernel, rfl, tw_X5_extendLog_code, ti_X5, by decide +kernel, by decide +kernel, by decide +kernel, by decide, fun h => absurd h (by decide), fun _ => ⟨tw_X5_extendLog_inst, tw_X5_extendLog_sel, ⟨(RX5, TX5, 14), rfl, rfl⟩⟩, fun h => absurd h (by decide)⟩
theorem tL_X5_findRow : mx_okL tb_cl tb_GT tb_NW tb_MT tm_X5_findRow := ⟨List.forall_mem_cons.mpr ⟨⟨(RX5, TX5, 14), rfl, by decide, tf_X5_50⟩, List.forall_mem_cons.mpr ⟨⟨(RX5, TX5, 14), rfl, by decide, tf_X5_12⟩, fun _ h => absurd h List.not_mem_nil⟩⟩, fun _ h => absurd h List.not_mem_nil, fun _ h => absurd h List.not_mem_nil, fun _ h => absurd h List.not_mem_nil, List.forall_mem_cons.mpr ⟨Or.inr (Or.inr (Or.inr (Or.inr ⟨by decide, fun M1 h1 => by have h2 : M1 = tm_X4_wholeSort := (Option.some.inj (h1.symm.trans tn_X4_wholeSort)); subst h2; exact Or.inl tj_X5_193⟩))), List.forall_mem_cons.mpr ⟨Or.inr (Or.inr (Or.inr (Or.inr ⟨by decide, fun M1 h1 => by have h2 : M1 = tm_X4_cell := (Option.some.inj (h1.symm.trans tn_X4_cell)); subst h2; exact Or.inl tj_X5_170⟩))), List.forall_mem_cons.mpr ⟨Or.inr (Or.inr (Or.inr (Or.inr ⟨by decide, fun M1 h1 => by have h2 : M1 = tm_X5_lengthOfRow := (Option.some.inj (h1.symm.trans tn_X5_lengthOfRow)); subst h2; exact Or.inl tj_X5_150⟩))), fun _ h => absurd h List.not_mem_nil⟩⟩⟩⟩
set_option maxRecDepth 100000 in
theorem tw_X5_findRow_code : Jvm.Cond.code yX5_findRow cX5_findRow 3 (some .int) ∈ tb_GT := tb_mem 328 (rfl) rfl
theorem tw_X5_findRow_inst : Jvm.Cond.instanceMethod yX5_findRow ∈ tb_GT := tb_mem 327 (by decide +kernel) rfl
theorem tw_X5_findRow_sel : Jvm.Cond.selects RX5 yX5_findRow yX5_findRow ∈ tb_GT := tb_mem 9 (by decide +kernel) rfl
theorem tY_X5_findRow : mx_okY tb_cl tb_GT tm_X5_findRow := ⟨by decide +kernel, rfl, tw_X5_findRow_code, ti_X5, by decide +kernel, by decide +kernel, by decide +kernel, by decide, fun h => absurd h (by decide), fun _ => ⟨tw_X5_findRow_inst, tw_X5_findRow_sel, ⟨(RX5, TX5, 14), rfl, rfl⟩⟩, fun h => absurd h (by decide)⟩
theorem tL_X5_findSymbol : mx_okL tb_cl tb_GT tb_NW tb_MT tm_X5_findSymbol := ⟨List.forall_mem_cons.mpr ⟨⟨(RX5, TX5, 14), rfl, by decide, tf_X5_50⟩, List.forall_mem_cons.mpr ⟨⟨(RX5, TX5, 14), rfl, by decide, tf_X5_12⟩, fun _ h => absurd h List.not_mem_nil⟩⟩, fun _ h => absurd h List.not_mem_nil, fun _ h => absurd h List.not_mem_nil, fun _ h => absurd h List.not_mem_nil, List.forall_mem_cons.mpr ⟨Or.inr (Or.inr (Or.inr (Or.inr ⟨by decide, fun M1 h1 => by have h2 : M1 = tm_X4_wholeSort := (Option.some.inj (h1.symm.trans tn_X4_wholeSort)); subst h2; exact Or.inl tj_X5_193⟩))), List.forall_mem_cons.mpr ⟨Or.inr (Or.inr (Or.inr (Or.inr ⟨by decide, fun M1 h1 => by have h2 : M1 = tm_X4_cell := (Option.some.inj (h1.symm.trans tn_X4_cell)); subst h2; exact Or.inl tj_X5_170⟩))), fun _ h => absurd h List.not_mem_nil⟩⟩⟩
set_option maxRecDepth 100000 in
theorem tw_X5_findSymbol_code : Jvm.Cond.code yX5_findSymbol cX5_findSymbol 4 (some .int) ∈ tb_GT := tb_mem 452 (rfl) rfl
theorem tw_X5_findSymbol_inst : Jvm.Cond.instanceMethod yX5_findSymbol ∈ tb_GT := tb_mem 451 (by decide +kernel) rfl
theorem tw_X5_findSymbol_sel : Jvm.Cond.selects RX5 yX5_findSymbol yX5_findSymbol ∈ tb_GT := tb_mem 26 (by decide +kernel) rfl
theorem tY_X5_findSymbol : mx_okY tb_cl tb_GT tm_X5_findSymbol := ⟨by decide +kernel, rfl, tw_X5_findSymbol_code, ti_X5, by decide +kernel, by decide +kernel, by decide +kernel, by decide, fun h => absurd h (by decide), fun _ => ⟨tw_X5_findSymbol_inst, tw_X5_findSymbol_sel, ⟨(RX5, TX5, 14), rfl, rfl⟩⟩, fun h => absurd h (by decide)⟩
theorem tj_X5_160 : Jvm.Cond.methodLink RX5 160 yX4_content ∈ tb_GT := tb_mem 342 (by decide +kernel) rfl
theorem tL_X5_generationIn : mx_okL tb_cl tb_GT tb_NW tb_MT tm_X5_generationIn := ⟨List.forall_mem_cons.mpr ⟨⟨(RX5, TX5, 14), rfl, by decide, tf_X5_12⟩, fun _ h => absurd h List.not_mem_nil⟩, fun _ h => absurd h List.not_mem_nil, fun _ h => absurd h List.not_mem_nil, fun _ h => absurd h List.not_mem_nil, List.forall_mem_cons.mpr ⟨Or.inr (Or.inr (Or.inr (Or.inr ⟨by decide, fun M1 h1 => by have h2 : M1 = tm_X4_content := (Option.some.inj (h1.symm.trans tn_X4_content)); subst h2; exact Or.inl tj_X5_160⟩))), fun _ h => absurd h List.not_mem_nil⟩⟩
set_option maxRecDepth 100000 in
theorem tw_X5_generationIn_code : Jvm.Cond.code yX5_generationIn cX5_generationIn 4 (some .int) ∈ tb_GT := tb_mem 415 (rfl) rfl
theorem tw_X5_generationIn_inst : Jvm.Cond.instanceMethod yX5_generationIn ∈ tb_GT := tb_mem 414 (by decide +kernel) rfl
theorem tw_X5_generationIn_sel : Jvm.Cond.selects RX5 yX5_generationIn yX5_generationIn ∈ tb_GT := tb_mem 20 (by decide +kernel) rfl
theorem tY_X5_generationIn : mx_okY tb_cl tb_GT tm_X5_generationIn := ⟨by decide +kernel, rfl, tw_X5_generationIn_code, ti_X5, by decide +kernel, by decide +kernel, by decide +kernel, by decide, fun h => absurd h (by decide), fun _ => ⟨tw_X5_generationIn_inst, tw_X5_generationIn_sel, ⟨(RX5, TX5, 14), rfl, rfl⟩⟩, fun h => absurd h (by decide)⟩
theorem tj_X5_208 : Jvm.Cond.methodLink RX5 208 yX5_isInLog ∈ tb_GT := tb_mem 256 (by decide +kernel) rfl
theorem tL_X5_isBlock : mx_okL tb_cl tb_GT tb_NW tb_MT tm_X5_isBlock := ⟨List.forall_mem_cons.mpr ⟨⟨(RX5, TX5, 14), rfl, by decide, tf_X5_12⟩, fun _ h => absurd h List.not_mem_nil⟩, fun _ h => absurd h List.not_mem_nil, fun _ h => absurd h List.not_mem_nil, fun _ h => absurd h List.not_mem_nil, List.forall_mem_cons.mpr ⟨Or.inr (Or.inr (Or.inr (Or.inr ⟨by decide, fun M1 h1 => by have h2 : M1 = tm_X5_isInLog := (Option.some.inj (h1.symm.trans tn_X5_isInLog)); subst h2; exact Or.inl tj_X5_208⟩))), List.forall_mem_cons.mpr ⟨Or.inr (Or.inr (Or.inr (Or.inr ⟨by decide, fun M1 h1 => by have h2 : M1 = tm_X4_wholeSort := (Option.some.inj (h1.symm.trans tn_X4_wholeSort)); subst h2; exact Or.inl tj_X5_193⟩))), fun _ h => absurd h List.not_mem_nil⟩⟩⟩
set_option maxRecDepth 100000 in
theorem tw_X5_isBlock_code : Jvm.Cond.code yX5_isBlock cX5_isBlock 2 (some .boolean) ∈ tb_GT := tb_mem 255 (rfl) rfl
theorem tw_X5_isBlock_inst : Jvm.Cond.instanceMethod yX5_isBlock ∈ tb_GT := tb_mem 254 (by decide +kernel) rfl
theorem tw_X5_isBlock_sel : Jvm.Cond.selects RX5 yX5_isBlock yX5_isBlock ∈ tb_GT := tb_mem 4 (by decide +kernel) rfl
theorem tY_X5_isBlock : mx_okY tb_cl tb_GT tm_X5_isBlock := ⟨by decide +kernel, rfl, tw_X5_isBlock_code, ti_X5, by decide +kernel, by decide +kernel, by decide +kernel, by decide, fun h => absurd h (by decide), fun _ => ⟨tw_X5_isBlock_inst, tw_X5_isBlock_sel, ⟨(RX5, TX5, 14), rfl, rfl⟩⟩, fun h => absurd h (by decide)⟩
theorem tL_X5_isHead : mx_okL tb_cl tb_GT tb_NW tb_MT tm_X5_isHead := ⟨List.forall_mem_cons.mpr ⟨⟨(RX5, TX5, 14), rfl, by decide, tf_X5_12⟩, fun _ h => absurd h List.not_mem_nil⟩, fun _ h => absurd h List.not_mem_nil, fun _ h => absurd h List.not_mem_nil, fun _ h => absurd h List.not_mem_nil, List.forall_mem_cons.mpr ⟨Or.inr (Or.inr (Or.inr (Or.inr ⟨by decide, fun M1 h1 => by have h2 : M1 = tm_X4_content := (Option.some.inj (h1.symm.trans tn_X4_content)); subst h2; exact Or.inl tj_X5_160⟩))), List.forall_mem_cons.mpr ⟨Or.inr (Or.inr (Or.inr (Or.inr ⟨by decide, fun M1 h1 => by have h2 : M1 = tm_X4_wholeSort := (Option.some.inj (h1.symm.trans tn_X4_wholeSort)); subst h2; exact Or.inl tj_X5_193⟩))), List.forall_mem_cons.mpr ⟨Or.inr (Or.inr (Or.inr (Or.inr ⟨by decide, fun M1 h1 => by have h2 : M1 = tm_X4_count := (Option.some.inj (h1.symm.trans tn_X4_count)); subst h2; exact Or.inl tj_X5_205⟩))), fun _ h => absurd h List.not_mem_nil⟩⟩⟩⟩
set_option maxRecDepth 100000 in
theorem tw_X5_isHead_code : Jvm.Cond.code yX5_isHead cX5_isHead 3 (some .boolean) ∈ tb_GT := tb_mem 411 (rfl) rfl
theorem tw_X5_isHead_inst : Jvm.Cond.instanceMethod yX5_isHead ∈ tb_GT := tb_mem 410 (by decide +kernel) rfl
theorem tw_X5_isHead_sel : Jvm.Cond.selects RX5 yX5_isHead yX5_isHead ∈ tb_GT := tb_mem 19 (by decide +kernel) rfl
theorem tY_X5_isHead : mx_okY tb_cl tb_GT tm_X5_isHead := ⟨by decide +kernel, rfl, tw_X5_isHead_code, ti_X5, by decide +kernel, by decide +kernel, by decide +kernel, by decide, fun h => absurd h (by decide), fun _ => ⟨tw_X5_isHead_inst, tw_X5_isHead_sel, ⟨(RX5, TX5, 14), rfl, rfl⟩⟩, fun h => absurd h (by decide)⟩
theorem tj_X5_176 : Jvm.Cond.methodLink RX5 176 yX4_has ∈ tb_GT := tb_mem 284 (by decide +kernel) rfl
theorem tj_X5_179 : Jvm.Cond.methodLink RX5 179 yX4_isLost ∈ tb_GT := tb_mem 489 (by decide +kernel) rfl
theorem tj_X5_182 : Jvm.Cond.methodLink RX5 182 yX4_markLost ∈ tb_GT := tb_mem 490 (by decide +kernel) rfl
theorem tL_X5_lose : mx_okL tb_cl tb_GT tb_NW tb_MT tm_X5_lose := ⟨List.forall_mem_cons.mpr ⟨⟨(RX5, TX5, 14), rfl, by decide, tf_X5_12⟩, fun _ h => absurd h List.not_mem_nil⟩, fun _ h => absurd h List.not_mem_nil, fun _ h => absurd h List.not_mem_nil, fun _ h => absurd h List.not_mem_nil, List.forall_mem_cons.mpr ⟨Or.inr (Or.inr (Or.inr (Or.inr ⟨by decide, fun M1 h1 => by have h2 : M1 = tm_X4_has := (Option.some.inj (h1.symm.trans tn_X4_has)); subst h2; exact Or.inl tj_X5_176⟩))), List.forall_mem_cons.mpr ⟨Or.inr (Or.inr (Or.inr (Or.inr ⟨by decide, fun M1 h1 => by have h2 : M1 = tm_X4_isLost := (Option.some.inj (h1.symm.trans tn_X4_isLost)); subst h2; exact Or.inl tj_X5_179⟩))), List.forall_mem_cons.mpr ⟨Or.inr (Or.inr (Or.inr (Or.inr ⟨by decide, fun M1 h1 => by have h2 : M1 = tm_X4_markLost := (Option.some.inj (h1.symm.trans tn_X4_markLost)); subst h2; exact Or.inl tj_X5_182⟩))), fun _ h => absurd h List.not_mem_nil⟩⟩⟩⟩
set_option maxRecDepth 100000 in
theorem tw_X5_lose_code : Jvm.Cond.code yX5_lose cX5_lose 2 (some .int) ∈ tb_GT := tb_mem 488 (rfl) rfl
theorem tw_X5_lose_inst : Jvm.Cond.instanceMethod yX5_lose ∈ tb_GT := tb_mem 486 (by decide +kernel) rfl
theorem tw_X5_lose_sel : Jvm.Cond.selects RX5 yX5_lose yX5_lose ∈ tb_GT := tb_mem 487 (by decide +kernel) rfl
theorem tY_X5_lose : mx_okY tb_cl tb_GT tm_X5_lose := ⟨by decide +kernel, rfl, tw_X5_lose_code, ti_X5, by decide +kernel, by decide +kernel, by decide +kernel, by decide, fun h => absurd h (by decide), fun _ => ⟨tw_X5_lose_inst, tw_X5_lose_sel, ⟨(RX5, TX5, 14), rfl, rfl⟩⟩, fun h => absurd h (by decide)⟩
theorem tf_X5_74 : Jvm.Cond.fieldLink RX5 74 "PackDisk" "openKind" "I" ∈ tb_GT := tb_mem 171 (by decide +kernel) rfl
theorem tj_X5_61 : Jvm.Cond.methodLink RX5 61 yX5_sectorsLeft ∈ tb_GT := tb_mem 212 (by decide +kernel) rfl
theorem tj_X5_68 : Jvm.Cond.methodLink RX5 68 yJ7_fill_53178 ∈ tb_GT := tb_mem 220 (by decide +kernel) rfl
theorem tL_X5_open : mx_okL tb_cl tb_GT tb_NW tb_MT tm_X5_open := ⟨List.forall_mem_cons.mpr ⟨⟨(RX5, TX5, 14), rfl, by decide, tf_X5_46⟩, List.forall_mem_cons.mpr ⟨⟨(RX5, TX5, 14), rfl, by decide, tf_X5_65⟩, List.forall_mem_cons.mpr ⟨⟨(RX5, TX5, 14), rfl, by decide, tf_X5_39⟩, List.forall_mem_cons.mpr ⟨⟨(RX5, TX5, 14), rfl, by decide, tf_X5_74⟩, List.forall_mem_cons.mpr ⟨⟨(RX5, TX5, 14), rfl, by decide, tf_X5_54⟩, fun _ h => absurd h List.not_mem_nil⟩⟩⟩⟩⟩, fun _ h => absurd h List.not_mem_nil, fun _ h => absurd h List.not_mem_nil, fun _ h => absurd h List.not_mem_nil, List.forall_mem_cons.mpr ⟨Or.inr (Or.inr (Or.inr (Or.inr ⟨by decide, fun M1 h1 => by have h2 : M1 = tm_X5_isOpen := (Option.some.inj (h1.symm.trans tn_X5_isOpen)); subst h2; exact Or.inl tj_X5_57⟩))), List.forall_mem_cons.mpr ⟨Or.inr (Or.inr (Or.inr (Or.inr ⟨by decide, fun M1 h1 => by have h2 : M1 = tm_X5_sectorsLeft := (Option.some.inj (h1.symm.trans tn_X5_sectorsLeft)); subst h2; exact Or.inl tj_X5_61⟩))), List.forall_mem_cons.mpr ⟨Or.inr (Or.inr (Or.inr (Or.inr ⟨by decide, fun M1 h1 => by have h2 : M1 = tm_J7_fill_53178 := (Option.some.inj (h1.symm.trans tn_J7_fill_53178)); subst h2; exact Or.inl tj_X5_68⟩))), fun _ h => absurd h List.not_mem_nil⟩⟩⟩⟩
set_option maxRecDepth 100000 in
theorem tw_X5_open_code : Jvm.Cond.code yX5_open cX5_open 2 (some .int) ∈ tb_GT := tb_mem 207 (rfl) rfl
theorem tw_X5_open_inst : Jvm.Cond.instanceMethod yX5_open ∈ tb_GT := tb_mem 205 (by decide +kernel) rfl
theorem tw_X5_open_sel : Jvm.Cond.selects RX5 yX5_open yX5_open ∈ tb_GT := tb_mem 206 (by decide +kernel) rfl
theorem tY_X5_open : mx_okY tb_cl tb_GT tm_X5_open := ⟨by decide +kernel, rfl, tw_X5_open_code, ti_X5, by decide +kernel, by decide +kernel, by decide +kernel, by decide, fun h => absurd h (by decide), fun _ => ⟨tw_X5_open_inst, tw_X5_open_sel, ⟨(RX5, TX5, 14), rfl, rfl⟩⟩, fun h => absurd h (by decide)⟩
theorem tL_X5_whole : mx_okL tb_cl tb_GT tb_NW tb_MT tm_X5_whole := ⟨List.forall_mem_cons.mpr ⟨⟨(RX5, TX5, 14), rfl, by decide, tf_X5_12⟩, fun _ h => absurd h List.not_mem_nil⟩, fun _ h => absurd h List.not_mem_nil, fun _ h => absurd h List.not_mem_nil, fun _ h => absurd h List.not_mem_nil, List.forall_mem_cons.mpr ⟨Or.inr (Or.inr (Or.inr (Or.inr ⟨by decide, fun M1 h1 => by have h2 : M1 = tm_X4_has := (Option.some.inj (h1.symm.trans tn_X4_has)); subst h2; exact Or.inl tj_X5_176⟩))), List.forall_mem_cons.mpr ⟨Or.inr (Or.inr (Or.inr (Or.inr ⟨by decide, fun M1 h1 => by have h2 : M1 = tm_X4_wholeSort := (Option.some.inj (h1.symm.trans tn_X4_wholeSort)); subst h2; exact Or.inl tj_X5_193⟩))), fun _ h => absurd h List.not_mem_nil⟩⟩⟩
set_option maxRecDepth 100000 in
theorem tw_X5_whole_code : Jvm.Cond.code yX5_whole cX5_whole 2 (some .int) ∈ tb_GT := tb_mem 510 (rfl) rfl
theorem tw_X5_whole_inst : Jvm.Cond.instanceMethod yX5_whole ∈ tb_GT := tb_mem 508 (by decide +kernel) rfl
theorem tw_X5_whole_sel : Jvm.Cond.selects RX5 yX5_whole yX5_whole ∈ tb_GT := tb_mem 509 (by decide +kernel) rfl
theorem tY_X5_whole : mx_okY tb_cl tb_GT tm_X5_whole := ⟨by decide +kernel, rfl, tw_X5_whole_code, ti_X5, by decide +kernel, by decide +kernel, by decide +kernel, by decide, fun h => absurd h (by decide), fun _ => ⟨tw_X5_whole_inst, tw_X5_whole_sel, ⟨(RX5, TX5, 14), rfl, rfl⟩⟩, fun h => absurd h (by decide)⟩
theorem tj_X6_82 : Jvm.Cond.methodLink RX6 82 yX6_isInLog ∈ tb_GT := tb_mem 778 (by decide +kernel) rfl
theorem tj_X6_86 : Jvm.Cond.methodLink RX6 86 yX6_sortOf ∈ tb_GT := tb_mem 726 (by decide +kernel) rfl
theorem tL_X6_isBlock : mx_okL tb_cl tb_GT tb_NW tb_MT tm_X6_isBlock := ⟨fun _ h => absurd h List.not_mem_nil, fun _ h => absurd h List.not_mem_nil, fun _ h => absurd h List.not_mem_nil, fun _ h => absurd h List.not_mem_nil, List.forall_mem_cons.mpr ⟨Or.inr (Or.inr (Or.inr (Or.inr ⟨by decide, fun M1 h1 => by have h2 : M1 = tm_X6_isInLog := (Option.some.inj (h1.symm.trans tn_X6_isInLog)); subst h2; exact Or.inl tj_X6_82⟩))), List.forall_mem_cons.mpr ⟨Or.inr (Or.inr (Or.inr (Or.inr ⟨by decide, fun M1 h1 => by have h2 : M1 = tm_X6_sortOf := (Option.some.inj (h1.symm.trans tn_X6_sortOf)); subst h2; exact Or.inl tj_X6_86⟩))), fun _ h => absurd h List.not_mem_nil⟩⟩⟩
set_option maxRecDepth 100000 in
theorem tw_X6_isBlock_code : Jvm.Cond.code yX6_isBlock cX6_isBlock 2 (some .boolean) ∈ tb_GT := tb_mem 777 (rfl) rfl
theorem tw_X6_isBlock_inst : Jvm.Cond.instanceMethod yX6_isBlock ∈ tb_GT := tb_mem 776 (by decide +kernel) rfl
theorem tw_X6_isBlock_sel : Jvm.Cond.selects RX6 yX6_isBlock yX6_isBlock ∈ tb_GT := tb_mem 42 (by decide +kernel) rfl
theorem tY_X6_isBlock : mx_okY tb_cl tb_GT tm_X6_isBlock := ⟨by decide +kernel, rfl, tw_X6_isBlock_code, ti_X6, by decide +kernel, by decide +kernel, by decide +kernel, by decide, fun h => absurd h (by decide), fun _ => ⟨tw_X6_isBlock_inst, tw_X6_isBlock_sel, ⟨(RX6, TX6, 27), rfl, rfl⟩⟩, fun h => absurd h (by decide)⟩
theorem tL_X6_isHead : mx_okL tb_cl tb_GT tb_NW tb_MT tm_X6_isHead := ⟨List.forall_mem_cons.mpr ⟨⟨(RX6, TX6, 27), rfl, by decide, tf_X6_7⟩, List.forall_mem_cons.mpr ⟨⟨(RX6, TX6, 27), rfl, by decide, tf_X6_67⟩, fun _ h => absurd h List.not_mem_nil⟩⟩, fun _ h => absurd h List.not_mem_nil, fun _ h => absurd h List.not_mem_nil, fun _ h => absurd h List.not_mem_nil, List.forall_mem_cons.mpr ⟨Or.inr (Or.inr (Or.inr (Or.inr ⟨by decide, fun M1 h1 => by have h2 : M1 = tm_X6_sortOf := (Option.some.inj (h1.symm.trans tn_X6_sortOf)); subst h2; exact Or.inl tj_X6_86⟩))), List.forall_mem_cons.mpr ⟨Or.inr (Or.inr (Or.inr (Or.inr ⟨by decide, fun M1 h1 => by have h2 : M1 = tm_X6_in := (Option.some.inj (h1.symm.trans tn_X6_in)); subst h2; exact Or.inl tj_X6_73⟩))), fun _ h => absurd h List.not_mem_nil⟩⟩⟩
set_option maxRecDepth 100000 in
theorem tw_X6_isHead_code : Jvm.Cond.code yX6_isHead cX6_isHead 2 (some .boolean) ∈ tb_GT := tb_mem 810 (rfl) rfl
theorem tw_X6_isHead_inst : Jvm.Cond.instanceMethod yX6_isHead ∈ tb_GT := tb_mem 809 (by decide +kernel) rfl
theorem tw_X6_isHead_sel : Jvm.Cond.selects RX6 yX6_isHead yX6_isHead ∈ tb_GT := tb_mem 45 (by decide +kernel) rfl
theorem tY_X6_isHead : mx_okY tb_cl tb_GT tm_X6_isHead := ⟨by decide +kernel, rfl, tw_X6_isHead_code, ti_X6, by decide +kernel, by decide +kernel, by decide +kernel, by decide, fun h => absurd h (by decide), fun _ => ⟨tw_X6_isHead_inst, tw_X6_isHead_sel, ⟨(RX6, TX6, 27), rfl, rfl⟩⟩, fun h => absurd h (by decide)⟩
theorem tj_X6_200 : Jvm.Cond.methodLink RX6 200 yX6_isSector ∈ tb_GT := tb_mem 858 (by decide +kernel) rfl
theorem tL_X6_lose : mx_okL tb_cl tb_GT tb_NW tb_MT tm_X6_lose := ⟨List.forall_mem_cons.mpr ⟨⟨(RX6, TX6, 27), rfl, by decide, tf_X6_70⟩, List.forall_mem_cons.mpr ⟨⟨(RX6, TX6, 27), rfl, by decide, tf_X6_13⟩, fun _ h => absurd h List.not_mem_nil⟩⟩, fun _ h => absurd h List.not_mem_nil, fun _ h => absurd h List.not_mem_nil, fun _ h => absurd h List.not_mem_nil, List.forall_mem_cons.mpr ⟨Or.inr (Or.inr (Or.inr (Or.inr ⟨by decide, fun M1 h1 => by have h2 : M1 = tm_X6_isSector := (Option.some.inj (h1.symm.trans tn_X6_isSector)); subst h2; exact Or.inl tj_X6_200⟩))), fun _ h => absurd h List.not_mem_nil⟩⟩
set_option maxRecDepth 100000 in
theorem tw_X6_lose_code : Jvm.Cond.code yX6_lose cX6_lose 3 (some .int) ∈ tb_GT := tb_mem 857 (rfl) rfl
theorem tw_X6_lose_inst : Jvm.Cond.instanceMethod yX6_lose ∈ tb_GT := tb_mem 855 (by decide +kernel) rfl
theorem tw_X6_lose_sel : Jvm.Cond.selects RX6 yX6_lose yX6_lose ∈ tb_GT := tb_mem 856 (by decide +kernel) rfl
theorem tY_X6_lose : mx_okY tb_cl tb_GT tm_X6_lose := ⟨by decide +kernel, rfl, tw_X6_lose_code, ti_X6, by decide +kernel, by decide +kernel, by decide +kernel, by decide, fun h => absurd h (by decide), fun _ => ⟨tw_X6_lose_inst, tw_X6_lose_sel, ⟨(RX6, TX6, 27), rfl, rfl⟩⟩, fun h => absurd h (by decide)⟩
theorem tL_X6_octet : mx_okL tb_cl tb_GT tb_NW tb_MT tm_X6_octet := ⟨List.forall_mem_cons.mpr ⟨⟨(RX6, TX6, 27), rfl, by decide, tf_X6_70⟩, List.forall_mem_cons.mpr ⟨⟨(RX6, TX6, 27), rfl, by decide, tf_X6_7⟩, fun _ h => absurd h List.not_mem_nil⟩⟩, fun _ h => absurd h List.not_mem_nil, fun _ h => absurd h List.not_mem_nil, fun _ h => absurd h List.not_mem_nil, List.forall_mem_cons.mpr ⟨Or.inr (Or.inr (Or.inr (Or.inr ⟨by decide, fun M1 h1 => by have h2 : M1 = tm_X6_isSector := (Option.some.inj (h1.symm.trans tn_X6_isSector)); subst h2; exact Or.inl tj_X6_200⟩))), List.forall_mem_cons.mpr ⟨Or.inr (Or.inr (Or.inr (Or.inr ⟨by decide, fun M1 h1 => by have h2 : M1 = tm_X6_in := (Option.some.inj (h1.symm.trans tn_X6_in)); subst h2; exact Or.inl tj_X6_73⟩))), fun _ h => absurd h List.not_mem_nil⟩⟩⟩
set_option maxRecDepth 100000 in
theorem tw_X6_octet_code : Jvm.Cond.code yX6_octet cX6_octet 3 (some .int) ∈ tb_GT := tb_mem 869 (rfl) rfl
theorem tw_X6_octet_inst : Jvm.Cond.instanceMethod yX6_octet ∈ tb_GT := tb_mem 867 (by decide +kernel) rfl
theorem tw_X6_octet_sel : Jvm.Cond.selects RX6 yX6_octet yX6_octet ∈ tb_GT := tb_mem 868 (by decide +kernel) rfl
theorem tY_X6_octet : mx_okY tb_cl tb_GT tm_X6_octet := ⟨by decide +kernel, rfl, tw_X6_octet_code, ti_X6, by decide +kernel, by decide +kernel, by decide +kernel, by decide, fun h => absurd h (by decide), fun _ => ⟨tw_X6_octet_inst, tw_X6_octet_sel, ⟨(RX6, TX6, 27), rfl, rfl⟩⟩, fun h => absurd h (by decide)⟩
theorem tL_X6_poke : mx_okL tb_cl tb_GT tb_NW tb_MT tm_X6_poke := ⟨List.forall_mem_cons.mpr ⟨⟨(RX6, TX6, 27), rfl, by decide, tf_X6_70⟩, List.forall_mem_cons.mpr ⟨⟨(RX6, TX6, 27), rfl, by decide, tf_X6_7⟩, fun _ h => absurd h List.not_mem_nil⟩⟩, fun _ h => absurd h List.not_mem_nil, fun _ h => absurd h List.not_mem_nil, fun _ h => absurd h List.not_mem_nil, List.forall_mem_cons.mpr ⟨Or.inr (Or.inr (Or.inr (Or.inr ⟨by decide, fun M1 h1 => by have h2 : M1 = tm_X6_isSector := (Option.some.inj (h1.symm.trans tn_X6_isSector)); subst h2; exact Or.inl tj_X6_200⟩))), List.forall_mem_cons.mpr ⟨Or.inr (Or.inr (Or.inr (Or.inr ⟨by decide, fun M1 h1 => by have h2 : M1 = tm_X6_in := (Option.some.inj (h1.symm.trans tn_X6_in)); subst h2; exact Or.inl tj_X6_73⟩))), fun _ h => absurd h List.not_mem_nil⟩⟩⟩
set_option maxRecDepth 100000 in
theorem tw_X6_poke_code : Jvm.Cond.code yX6_poke cX6_poke 4 (some .int) ∈ tb_GT := tb_mem 865 (rfl) rfl
theorem tw_X6_poke_inst : Jvm.Cond.instanceMethod yX6_poke ∈ tb_GT := tb_mem 863 (by decide +kernel) rfl
theorem tw_X6_poke_sel : Jvm.Cond.selects RX6 yX6_poke yX6_poke ∈ tb_GT := tb_mem 864 (by decide +kernel) rfl
theorem tY_X6_poke : mx_okY tb_cl tb_GT tm_X6_poke := ⟨by decide +kernel, rfl, tw_X6_poke_code, ti_X6, by decide +kernel, by decide +kernel, by decide +kernel, by decide, fun h => absurd h (by decide), fun _ => ⟨tw_X6_poke_inst, tw_X6_poke_sel, ⟨(RX6, TX6, 27), rfl, rfl⟩⟩, fun h => absurd h (by decide)⟩
theorem tj_X6_138 : Jvm.Cond.methodLink RX6 138 yX6_product ∈ tb_GT := tb_mem 785 (by decide +kernel) rfl
theorem tL_X6_quotient : mx_okL tb_cl tb_GT tb_NW tb_MT tm_X6_quotient := ⟨fun _ h => absurd h List.not_mem_nil, fun _ h => absurd h List.not_mem_nil, fun _ h => absurd h List.not_mem_nil, fun _ h => absurd h List.not_mem_nil, List.forall_mem_cons.mpr ⟨Or.inr (Or.inr (Or.inr (Or.inr ⟨by decide, fun M1 h1 => by have h2 : M1 = tm_X6_product := (Option.some.inj (h1.symm.trans tn_X6_product)); subst h2; exact Or.inl tj_X6_138⟩))), fun _ h => absurd h List.not_mem_nil⟩⟩
set_option maxRecDepth 100000 in
theorem tw_X6_quotient_code : Jvm.Cond.code yX6_quotient cX6_quotient 3 (some .int) ∈ tb_GT := tb_mem 837 (rfl) rfl
theorem tw_X6_quotient_static : Jvm.Cond.static yX6_quotient ∈ tb_GT := tb_mem 836 (by decide +kernel) rfl
theorem tY_X6_quotient : mx_okY tb_cl tb_GT tm_X6_quotient := ⟨by decide +kernel, rfl, tw_X6_quotient_code, ti_X6, by decide +kernel, by decide +kernel, by decide +kernel, by decide, fun _ => tw_X6_quotient_static, fun h => absurd h (by decide), fun h => absurd h (by decide)⟩
theorem tL_X6_sectorOf : mx_okL tb_cl tb_GT tb_NW tb_MT tm_X6_sectorOf := ⟨List.forall_mem_cons.mpr ⟨⟨(RX6, TX6, 27), rfl, by decide, tf_X6_21⟩, List.forall_mem_cons.mpr ⟨⟨(RX6, TX6, 27), rfl, by decide, tf_X6_7⟩, fun _ h => absurd h List.not_mem_nil⟩⟩, fun _ h => absurd h List.not_mem_nil, fun _ h => absurd h List.not_mem_nil, fun _ h => absurd h List.not_mem_nil, List.forall_mem_cons.mpr ⟨Or.inr (Or.inr (Or.inr (Or.inr ⟨by decide, fun M1 h1 => by have h2 : M1 = tm_X6_sortOf := (Option.some.inj (h1.symm.trans tn_X6_sortOf)); subst h2; exact Or.inl tj_X6_86⟩))), fun _ h => absurd h List.not_mem_nil⟩⟩
set_option maxRecDepth 100000 in
theorem tw_X6_sectorOf_code : Jvm.Cond.code yX6_sectorOf cX6_sectorOf 4 (some .int) ∈ tb_GT := tb_mem 757 (rfl) rfl
theorem tw_X6_sectorOf_inst : Jvm.Cond.instanceMethod yX6_sectorOf ∈ tb_GT := tb_mem 756 (by decide +kernel) rfl
theorem tw_X6_sectorOf_sel : Jvm.Cond.selects RX6 yX6_sectorOf yX6_sectorOf ∈ tb_GT := tb_mem 37 (by decide +kernel) rfl
theorem tY_X6_sectorOf : mx_okY tb_cl tb_GT tm_X6_sectorOf := ⟨by decide +kernel, rfl, tw_X6_sectorOf_code, ti_X6, by decide +kernel, by decide +kernel, by decide +kernel, by decide, fun h => absurd h (by decide), fun _ => ⟨tw_X6_sectorOf_inst, tw_X6_sectorOf_sel, ⟨(RX6, TX6, 27), rfl, rfl⟩⟩, fun h => absurd h (by decide)⟩
theorem tL_X6_symbolOf : mx_okL tb_cl tb_GT tb_NW tb_MT tm_X6_symbolOf := ⟨List.forall_mem_cons.mpr ⟨⟨(RX6, TX6, 27), rfl, by decide, tf_X6_21⟩, List.forall_mem_cons.mpr ⟨⟨(RX6, TX6, 27), rfl, by decide, tf_X6_7⟩, fun _ h => absurd h List.not_mem_nil⟩⟩, fun _ h => absurd h List.not_mem_nil, fun _ h => absurd h List.not_mem_nil, fun _ h => absurd h List.not_mem_nil, List.forall_mem_cons.mpr ⟨Or.inr (Or.inr (Or.inr (Or.inr ⟨by decide, fun M1 h1 => by have h2 : M1 = tm_X6_sortOf := (Option.some.inj (h1.symm.trans tn_X6_sortOf)); subst h2; exact Or.inl tj_X6_86⟩))), fun _ h => absurd h List.not_mem_nil⟩⟩
set_option maxRecDepth 100000 in
theorem tw_X6_symbolOf_code : Jvm.Cond.code yX6_symbolOf cX6_symbolOf 5 (some .int) ∈ tb_GT := tb_mem 826 (rfl) rfl
theorem tw_X6_symbolOf_inst : Jvm.Cond.instanceMethod yX6_symbolOf ∈ tb_GT := tb_mem 825 (by decide +kernel) rfl
theorem tw_X6_symbolOf_sel : Jvm.Cond.selects RX6 yX6_symbolOf yX6_symbolOf ∈ tb_GT := tb_mem 49 (by decide +kernel) rfl
theorem tY_X6_symbolOf : mx_okY tb_cl tb_GT tm_X6_symbolOf := ⟨by decide +kernel, rfl, tw_X6_symbolOf_code, ti_X6, by decide +kernel, by decide +kernel, by decide +kernel, by decide, fun h => absurd h (by decide), fun _ => ⟨tw_X6_symbolOf_inst, tw_X6_symbolOf_sel, ⟨(RX6, TX6, 27), rfl, rfl⟩⟩, fun h => absurd h (by decide)⟩
theorem tL_X6_whole : mx_okL tb_cl tb_GT tb_NW tb_MT tm_X6_whole := ⟨List.forall_mem_cons.mpr ⟨⟨(RX6, TX6, 27), rfl, by decide, tf_X6_70⟩, fun _ h => absurd h List.not_mem_nil⟩, fun _ h => absurd h List.not_mem_nil, fun _ h => absurd h List.not_mem_nil, fun _ h => absurd h List.not_mem_nil, List.forall_mem_cons.mpr ⟨Or.inr (Or.inr (Or.inr (Or.inr ⟨by decide, fun M1 h1 => by have h2 : M1 = tm_X6_isSector := (Option.some.inj (h1.symm.trans tn_X6_isSector)); subst h2; exact Or.inl tj_X6_200⟩))), List.forall_mem_cons.mpr ⟨Or.inr (Or.inr (Or.inr (Or.inr ⟨by decide, fun M1 h1 => by have h2 : M1 = tm_X6_sortOf := (Option.some.inj (h1.symm.trans tn_X6_sortOf)); subst h2; exact Or.inl tj_X6_86⟩))), fun _ h => absurd h List.not_mem_nil⟩⟩⟩
set_option maxRecDepth 100000 in
theorem tw_X6_whole_code : Jvm.Cond.code yX6_whole cX6_whole 2 (some .int) ∈ tb_GT := tb_mem 873 (rfl) rfl
theorem tw_X6_whole_inst : Jvm.Cond.instanceMethod yX6_whole ∈ tb_GT := tb_mem 871 (by decide +kernel) rfl
theorem tw_X6_whole_sel : Jvm.Cond.selects RX6 yX6_whole yX6_whole ∈ tb_GT := tb_mem 872 (by decide +kernel) rfl
theorem tY_X6_whole : mx_okY tb_cl tb_GT tm_X6_whole := ⟨by decide +kernel, rfl, tw_X6_whole_code, ti_X6, by decide +kernel, by decide +kernel, by decide +kernel, by decide, fun h => absurd h (by decide), fun _ => ⟨tw_X6_whole_inst, tw_X6_whole_sel, ⟨(RX6, TX6, 27), rfl, rfl⟩⟩, fun h => absurd h (by decide)⟩
theorem tj_X6_90 : Jvm.Cond.methodLink RX6 90 yX6_seal ∈ tb_GT := tb_mem 742 (by decide +kernel) rfl
theorem tL_X6_write : mx_okL tb_cl tb_GT tb_NW tb_MT tm_X6_write := ⟨List.forall_mem_cons.mpr ⟨⟨(RX6, TX6, 27), rfl, by decide, tf_X6_31⟩, List.forall_mem_cons.mpr ⟨⟨(RX6, TX6, 27), rfl, by decide, tf_X6_93⟩, List.forall_mem_cons.mpr ⟨⟨(RX6, TX6, 27), rfl, by decide, tf_X6_37⟩, List.forall_mem_cons.mpr ⟨⟨(RX6, TX6, 27), rfl, by decide, tf_X6_13⟩, List.forall_mem_cons.mpr ⟨⟨(RX6, TX6, 27), rfl, by decide, tf_X6_34⟩, List.forall_mem_cons.mpr ⟨⟨(RX6, TX6, 27), rfl, by decide, tf_X6_7⟩, List.forall_mem_cons.mpr ⟨⟨(RX6, TX6, 27), rfl, by decide, tf_X6_40⟩, fun _ h => absurd h List.not_mem_nil⟩⟩⟩⟩⟩⟩⟩, fun _ h => absurd h List.not_mem_nil, fun _ h => absurd h List.not_mem_nil, fun _ h => absurd h List.not_mem_nil, List.forall_mem_cons.mpr ⟨Or.inr (Or.inr (Or.inr (Or.inr ⟨by decide, fun M1 h1 => by have h2 : M1 = tm_X6_seal := (Option.some.inj (h1.symm.trans tn_X6_seal)); subst h2; exact Or.inl tj_X6_90⟩))), fun _ h => absurd h List.not_mem_nil⟩⟩
set_option maxRecDepth 100000 in
theorem tw_X6_write_code : Jvm.Cond.code yX6_write cX6_write 3 none ∈ tb_GT := tb_mem 741 (rfl) rfl
theorem tw_X6_write_inst : Jvm.Cond.instanceMethod yX6_write ∈ tb_GT := tb_mem 740 (by decide +kernel) rfl
theorem tw_X6_write_sel : Jvm.Cond.selects RX6 yX6_write yX6_write ∈ tb_GT := tb_mem 34 (by decide +kernel) rfl
theorem tY_X6_write : mx_okY tb_cl tb_GT tm_X6_write := ⟨by decide +kernel, rfl, tw_X6_write_code, ti_X6, by decide +kernel, by decide +kernel, by decide +kernel, by decide, fun h => absurd h (by decide), fun _ => ⟨tw_X6_write_inst, tw_X6_write_sel, ⟨(RX6, TX6, 27), rfl, rfl⟩⟩, fun h => absurd h (by decide)⟩
theorem tj_X2_40 : Jvm.Cond.methodLink RX2 40 yX1_inverse ∈ tb_GT := tb_mem 461 (by decide +kernel) rfl
theorem tL_X2_prepare : mx_okL tb_cl tb_GT tb_NW tb_MT tm_X2_prepare := ⟨List.forall_mem_cons.mpr ⟨⟨(RX2, TX2, 6), rfl, by decide, tf_X2_24⟩, List.forall_mem_cons.mpr ⟨⟨(RX2, TX2, 6), rfl, by decide, tf_X2_15⟩, List.forall_mem_cons.mpr ⟨⟨(RX2, TX2, 6), rfl, by decide, tf_X2_18⟩, List.forall_mem_cons.mpr ⟨⟨(RX2, TX2, 6), rfl, by decide, tf_X2_44⟩, fun _ h => absurd h List.not_mem_nil⟩⟩⟩⟩, fun _ h => absurd h List.not_mem_nil, fun _ h => absurd h List.not_mem_nil, fun _ h => absurd h List.not_mem_nil, List.forall_mem_cons.mpr ⟨Or.inr (Or.inr (Or.inr (Or.inr ⟨by decide, fun M1 h1 => by have h2 : M1 = tm_J7_fill_53178 := (Option.some.inj (h1.symm.trans tn_J7_fill_53178)); subst h2; exact Or.inl tj_X2_28⟩))), List.forall_mem_cons.mpr ⟨Or.inr (Or.inr (Or.inr (Or.inr ⟨by decide, fun M1 h1 => by have h2 : M1 = tm_X1_times := (Option.some.inj (h1.symm.trans tn_X1_times)); subst h2; exact Or.inl tj_X2_34⟩))), List.forall_mem_cons.mpr ⟨Or.inr (Or.inr (Or.inr (Or.inr ⟨by decide, fun M1 h1 => by have h2 : M1 = tm_X1_inverse := (Option.some.inj (h1.symm.trans tn_X1_inverse)); subst h2; exact Or.inl tj_X2_40⟩))), fun _ h => absurd h List.not_mem_nil⟩⟩⟩⟩
set_option maxRecDepth 100000 in
theorem tw_X2_prepare_code : Jvm.Cond.code yX2_prepare cX2_prepare 4 (some .boolean) ∈ tb_GT := tb_mem 456 (rfl) rfl
theorem tw_X2_prepare_inst : Jvm.Cond.instanceMethod yX2_prepare ∈ tb_GT := tb_mem 454 (by decide +kernel) rfl
theorem tw_X2_prepare_sel : Jvm.Cond.selects RX2 yX2_prepare yX2_prepare ∈ tb_GT := tb_mem 455 (by decide +kernel) rfl
theorem tY_X2_prepare : mx_okY tb_cl tb_GT tm_X2_prepare := ⟨by decide +kernel, rfl, tw_X2_prepare_code, ti_X2, by decide +kernel, by decide +kernel, by decide +kernel, by decide, fun h => absurd h (by decide), fun _ => ⟨tw_X2_prepare_inst, tw_X2_prepare_sel, ⟨(RX2, TX2, 6), rfl, rfl⟩⟩, fun h => absurd h (by decide)⟩
theorem tj_X3_36 : Jvm.Cond.methodLink RX3 36 yX4_takeBack ∈ tb_GT := tb_mem 388 (by decide +kernel) rfl
theorem tL_X3_undoBehind : mx_okL tb_cl tb_GT tb_NW tb_MT tm_X3_undoBehind := ⟨List.forall_mem_cons.mpr ⟨⟨(RX3, TX3, 4), rfl, by decide, tf_X3_22⟩, List.forall_mem_cons.mpr ⟨⟨(RX3, TX3, 4), rfl, by decide, tf_X3_9⟩, List.forall_mem_cons.mpr ⟨⟨(RX3, TX3, 4), rfl, by decide, tf_X3_15⟩, List.forall_mem_cons.mpr ⟨⟨(RX3, TX3, 4), rfl, by decide, tf_X3_18⟩, fun _ h => absurd h List.not_mem_nil⟩⟩⟩⟩, fun _ h => absurd h List.not_mem_nil, fun _ h => absurd h List.not_mem_nil, fun _ h => absurd h List.not_mem_nil, List.forall_mem_cons.mpr ⟨Or.inr (Or.inr (Or.inr (Or.inr ⟨by decide, fun M1 h1 => by have h2 : M1 = tm_X4_takeBack := (Option.some.inj (h1.symm.trans tn_X4_takeBack)); subst h2; exact Or.inl tj_X3_36⟩))), fun _ h => absurd h List.not_mem_nil⟩⟩
set_option maxRecDepth 100000 in
theorem tw_X3_undoBehind_code : Jvm.Cond.code yX3_undoBehind cX3_undoBehind 5 none ∈ tb_GT := tb_mem 387 (rfl) rfl
theorem tw_X3_undoBehind_inst : Jvm.Cond.instanceMethod yX3_undoBehind ∈ tb_GT := tb_mem 385 (by decide +kernel) rfl
theorem tw_X3_undoBehind_sel : Jvm.Cond.selects RX3 yX3_undoBehind yX3_undoBehind ∈ tb_GT := tb_mem 386 (by decide +kernel) rfl
theorem tY_X3_undoBehind : mx_okY tb_cl tb_GT tm_X3_undoBehind := ⟨by decide +kernel, rfl, tw_X3_undoBehind_code, ti_X3, by decide +kernel, by decide +kernel, by decide +kernel, by decide, fun h => absurd h (by decide), fun _ => ⟨tw_X3_undoBehind_inst, tw_X3_undoBehind_sel, ⟨(RX3, TX3, 4), rfl, rfl⟩⟩, fun h => absurd h (by decide)⟩
theorem tj_X5_95 : Jvm.Cond.methodLink RX5 95 yX5_isRowNumber ∈ tb_GT := tb_mem 321 (by decide +kernel) rfl
theorem tj_X5_99 : Jvm.Cond.methodLink RX5 99 yX5_findRow ∈ tb_GT := tb_mem 325 (by decide +kernel) rfl
theorem tj_X5_164 : Jvm.Cond.methodLink RX5 164 yX5_isBlock ∈ tb_GT := tb_mem 252 (by decide +kernel) rfl
theorem tL_X5_at : mx_okL tb_cl tb_GT tb_NW tb_MT tm_X5_at := ⟨List.forall_mem_cons.mpr ⟨⟨(RX5, TX5, 14), rfl, by decide, tf_X5_46⟩, List.forall_mem_cons.mpr ⟨⟨(RX5, TX5, 14), rfl, by decide, tf_X5_12⟩, fun _ h => absurd h List.not_mem_nil⟩⟩, fun _ h => absurd h List.not_mem_nil, fun _ h => absurd h List.not_mem_nil, fun _ h => absurd h List.not_mem_nil, List.forall_mem_cons.mpr ⟨Or.inr (Or.inr (Or.inr (Or.inr ⟨by decide, fun M1 h1 => by have h2 : M1 = tm_X5_isRowNumber := (Option.some.inj (h1.symm.trans tn_X5_isRowNumber)); subst h2; exact Or.inl tj_X5_95⟩))), List.forall_mem_cons.mpr ⟨Or.inr (Or.inr (Or.inr (Or.inr ⟨by decide, fun M1 h1 => by have h2 : M1 = tm_X5_findRow := (Option.some.inj (h1.symm.trans tn_X5_findRow)); subst h2; exact Or.inl tj_X5_99⟩))), List.forall_mem_cons.mpr ⟨Or.inr (Or.inr (Or.inr (Or.inr ⟨by decide, fun M1 h1 => by have h2 : M1 = tm_X5_lengthOfRow := (Option.some.inj (h1.symm.trans tn_X5_lengthOfRow)); subst h2; exact Or.inl tj_X5_150⟩))), List.forall_mem_cons.mpr ⟨Or.inr (Or.inr (Or.inr (Or.inr ⟨by decide, fun M1 h1 => by have h2 : M1 = tm_X4_content := (Option.some.inj (h1.symm.trans tn_X4_content)); subst h2; exact Or.inl tj_X5_160⟩))), List.forall_mem_cons.mpr ⟨Or.inr (Or.inr (Or.inr (Or.inr ⟨by decide, fun M1 h1 => by have h2 : M1 = tm_X5_isBlock := (Option.some.inj (h1.symm.trans tn_X5_isBlock)); subst h2; exact Or.inl tj_X5_164⟩))), fun _ h => absurd h List.not_mem_nil⟩⟩⟩⟩⟩⟩
set_option maxRecDepth 100000 in
theorem tw_X5_at_code : Jvm.Cond.code yX5_at cX5_at 5 (some .int) ∈ tb_GT := tb_mem 610 (rfl) rfl
theorem tw_X5_at_inst : Jvm.Cond.instanceMethod yX5_at ∈ tb_GT := tb_mem 608 (by decide +kernel) rfl
theorem tw_X5_at_sel : Jvm.Cond.selects RX5 yX5_at yX5_at ∈ tb_GT := tb_mem 609 (by decide +kernel) rfl
theorem tY_X5_at : mx_okY tb_cl tb_GT tm_X5_at := ⟨by decide +kernel, rfl, tw_X5_at_code, ti_X5, by decide +kernel, by decide +kernel, by decide +kernel, by decide, fun h => absurd h (by decide), fun _ => ⟨tw_X5_at_inst, tw_X5_at_sel, ⟨(RX5, TX5, 14), rfl, rfl⟩⟩, fun h => absurd h (by decide)⟩
theorem tj_X5_238 : Jvm.Cond.methodLink RX5 238 yX5_isHead ∈ tb_GT := tb_mem 408 (by decide +kernel) rfl
theorem tj_X5_241 : Jvm.Cond.methodLink RX5 241 yX5_generationIn ∈ tb_GT := tb_mem 412 (by decide +kernel) rfl
theorem tL_X5_chooseHead : mx_okL tb_cl tb_GT tb_NW tb_MT tm_X5_chooseHead := ⟨fun _ h => absurd h List.not_mem_nil, fun _ h => absurd h List.not_mem_nil, fun _ h => absurd h List.not_mem_nil, fun _ h => absurd h List.not_mem_nil, List.forall_mem_cons.mpr ⟨Or.inr (Or.inr (Or.inr (Or.inr ⟨by decide, fun M1 h1 => by have h2 : M1 = tm_X5_isHead := (Option.some.inj (h1.symm.trans tn_X5_isHead)); subst h2; exact Or.inl tj_X5_238⟩))), List.forall_mem_cons.mpr ⟨Or.inr (Or.inr (Or.inr (Or.inr ⟨by decide, fun M1 h1 => by have h2 : M1 = tm_X5_generationIn := (Option.some.inj (h1.symm.trans tn_X5_generationIn)); subst h2; exact Or.inl tj_X5_241⟩))), fun _ h => absurd h List.not_mem_nil⟩⟩⟩
set_option maxRecDepth 100000 in
theorem tw_X5_chooseHead_code : Jvm.Cond.code yX5_chooseHead cX5_chooseHead 1 (some .int) ∈ tb_GT := tb_mem 407 (rfl) rfl
theorem tw_X5_chooseHead_inst : Jvm.Cond.instanceMethod yX5_chooseHead ∈ tb_GT := tb_mem 406 (by decide +kernel) rfl
theorem tw_X5_chooseHead_sel : Jvm.Cond.selects RX5 yX5_chooseHead yX5_chooseHead ∈ tb_GT := tb_mem 18 (by decide +kernel) rfl
theorem tY_X5_chooseHead : mx_okY tb_cl tb_GT tm_X5_chooseHead := ⟨by decide +kernel, rfl, tw_X5_chooseHead_code, ti_X5, by decide +kernel, by decide +kernel, by decide +kernel, by decide, fun h => absurd h (by decide), fun _ => ⟨tw_X5_chooseHead_inst, tw_X5_chooseHead_sel, ⟨(RX5, TX5, 14), rfl, rfl⟩⟩, fun h => absurd h (by decide)⟩
theorem tj_X5_264 : Jvm.Cond.methodLink RX5 264 yX2_clear ∈ tb_GT := tb_mem 436 (by decide +kernel) rfl
theorem tj_X5_167 : Jvm.Cond.methodLink RX5 167 yX5_blocksOfRow ∈ tb_GT := tb_mem 338 (by decide +kernel) rfl
theorem tj_X5_265 : Jvm.Cond.methodLink RX5 265 yX2_note ∈ tb_GT := tb_mem 441 (by decide +kernel) rfl
theorem tj_X5_220 : Jvm.Cond.methodLink RX5 220 yX1_twice ∈ tb_GT := tb_mem 354 (by decide +kernel) rfl
theorem tj_X5_267 : Jvm.Cond.methodLink RX5 267 yX2_size ∈ tb_GT := tb_mem 445 (by decide +kernel) rfl
theorem tL_X5_collectGaps : mx_okL tb_cl tb_GT tb_NW tb_MT tm_X5_collectGaps := ⟨List.forall_mem_cons.mpr ⟨⟨(RX5, TX5, 14), rfl, by decide, tf_X5_35⟩, List.forall_mem_cons.mpr ⟨⟨(RX5, TX5, 14), rfl, by decide, tf_X5_12⟩, fun _ h => absurd h List.not_mem_nil⟩⟩, fun _ h => absurd h List.not_mem_nil, fun _ h => absurd h List.not_mem_nil, fun _ h => absurd h List.not_mem_nil, List.forall_mem_cons.mpr ⟨Or.inr (Or.inr (Or.inr (Or.inr ⟨by decide, fun M1 h1 => by have h2 : M1 = tm_X2_clear := (Option.some.inj (h1.symm.trans tn_X2_clear)); subst h2; exact Or.inl tj_X5_264⟩))), List.forall_mem_cons.mpr ⟨Or.inr (Or.inr (Or.inr (Or.inr ⟨by decide, fun M1 h1 => by have h2 : M1 = tm_X5_blocksOfRow := (Option.some.inj (h1.symm.trans tn_X5_blocksOfRow)); subst h2; exact Or.inl tj_X5_167⟩))), List.forall_mem_cons.mpr ⟨Or.inr (Or.inr (Or.inr (Or.inr ⟨by decide, fun M1 h1 => by have h2 : M1 = tm_X4_content := (Option.some.inj (h1.symm.trans tn_X4_content)); subst h2; exact Or.inl tj_X5_160⟩))), List.forall_mem_cons.mpr ⟨Or.inr (Or.inr (Or.inr (Or.inr ⟨by decide, fun M1 h1 => by have h2 : M1 = tm_X5_isInLog := (Option.some.inj (h1.symm.trans tn_X5_isInLog)); subst h2; exact Or.inl tj_X5_208⟩))), List.forall_mem_cons.mpr ⟨Or.inr (Or.inr (Or.inr (Or.inr ⟨by decide, fun M1 h1 => by have h2 : M1 = tm_X5_isBlock := (Option.some.inj (h1.symm.trans tn_X5_isBlock)); subst h2; exact Or.inl tj_X5_164⟩))), List.forall_mem_cons.mpr ⟨Or.inr (Or.inr (Or.inr (Or.inr ⟨by decide, fun M1 h1 => by have h2 : M1 = tm_X2_note := (Option.some.inj (h1.symm.trans tn_X2_note)); subst h2; exact Or.inl tj_X5_265⟩))), List.forall_mem_cons.mpr ⟨Or.inr (Or.inr (Or.inr (Or.inr ⟨by decide, fun M1 h1 => by have h2 : M1 = tm_X1_twice := (Option.some.inj (h1.symm.trans tn_X1_twice)); subst h2; exact Or.inl tj_X5_220⟩))), List.forall_mem_cons.mpr ⟨Or.inr (Or.inr (Or.inr (Or.inr ⟨by decide, fun M1 h1 => by have h2 : M1 = tm_X2_size := (Option.some.inj (h1.symm.trans tn_X2_size)); subst h2; exact Or.inl tj_X5_267⟩))), fun _ h => absurd h List.not_mem_nil⟩⟩⟩⟩⟩⟩⟩⟩⟩
set_option maxRecDepth 100000 in
theorem tw_X5_collectGaps_code : Jvm.Cond.code yX5_collectGaps cX5_collectGaps 6 (some .boolean) ∈ tb_GT := tb_mem 435 (rfl) rfl
theorem tw_X5_collectGaps_inst : Jvm.Cond.instanceMethod yX5_collectGaps ∈ tb_GT := tb_mem 434 (by decide +kernel) rfl
theorem tw_X5_collectGaps_sel : Jvm.Cond.selects RX5 yX5_collectGaps yX5_collectGaps ∈ tb_GT := tb_mem 25 (by decide +kernel) rfl
theorem tY_X5_collectGaps : mx_okY tb_cl tb_GT tm_X5_collectGaps := ⟨by decide +kernel, rfl, tw_X5_collectGaps_code, ti_X5, by decide +kernel, by decide +kernel, by decide +kernel, by decide, fun h => absurd h (by decide), fun _ => ⟨tw_X5_collectGaps_inst, tw_X5_collectGaps_sel, ⟨(RX5, TX5, 14), rfl, rfl⟩⟩, fun h => absurd h (by decide)⟩
theorem tL_X5_countMissing : mx_okL tb_cl tb_GT tb_NW tb_MT tm_X5_countMissing := ⟨List.forall_mem_cons.mpr ⟨⟨(RX5, TX5, 14), rfl, by decide, tf_X5_12⟩, fun _ h => absurd h List.not_mem_nil⟩, fun _ h => absurd h List.not_mem_nil, fun _ h => absurd h List.not_mem_nil, fun _ h => absurd h List.not_mem_nil, List.forall_mem_cons.mpr ⟨Or.inr (Or.inr (Or.inr (Or.inr ⟨by decide, fun M1 h1 => by have h2 : M1 = tm_X5_blocksOfRow := (Option.some.inj (h1.symm.trans tn_X5_blocksOfRow)); subst h2; exact Or.inl tj_X5_167⟩))), List.forall_mem_cons.mpr ⟨Or.inr (Or.inr (Or.inr (Or.inr ⟨by decide, fun M1 h1 => by have h2 : M1 = tm_X4_content := (Option.some.inj (h1.symm.trans tn_X4_content)); subst h2; exact Or.inl tj_X5_160⟩))), List.forall_mem_cons.mpr ⟨Or.inr (Or.inr (Or.inr (Or.inr ⟨by decide, fun M1 h1 => by have h2 : M1 = tm_X5_isBlock := (Option.some.inj (h1.symm.trans tn_X5_isBlock)); subst h2; exact Or.inl tj_X5_164⟩))), fun _ h => absurd h List.not_mem_nil⟩⟩⟩⟩
set_option maxRecDepth 100000 in
theorem tw_X5_countMissing_code : Jvm.Cond.code yX5_countMissing cX5_countMissing 5 (some .int) ∈ tb_GT := tb_mem 337 (rfl) rfl
theorem tw_X5_countMissing_inst : Jvm.Cond.instanceMethod yX5_countMissing ∈ tb_GT := tb_mem 336 (by decide +kernel) rfl
theorem tw_X5_countMissing_sel : Jvm.Cond.selects RX5 yX5_countMissing yX5_countMissing ∈ tb_GT := tb_mem 11 (by decide +kernel) rfl
theorem tY_X5_countMissing : mx_okY tb_cl tb_GT tm_X5_countMissing := ⟨by decide +kernel, rfl, tw_X5_countMissing_code, ti_X5, by decide +kernel, by decide +kernel, by decide +kernel, by decide, fun h => absurd h (by decide), fun _ => ⟨tw_X5_countMissing_inst, tw_X5_countMissing_sel, ⟨(RX5, TX5, 14), rfl, rfl⟩⟩, fun h => absurd h (by decide)⟩
theorem tL_X5_countRows : mx_okL tb_cl tb_GT tb_NW tb_MT tm_X5_countRows := ⟨List.forall_mem_cons.mpr ⟨⟨(RX5, TX5, 14), rfl, by decide, tf_X5_65⟩, fun _ h => absurd h List.not_mem_nil⟩, fun _ h => absurd h List.not_mem_nil, fun _ h => absurd h List.not_mem_nil, fun _ h => absurd h List.not_mem_nil, List.forall_mem_cons.mpr ⟨Or.inr (Or.inr (Or.inr (Or.inr ⟨by decide, fun M1 h1 => by have h2 : M1 = tm_X5_findRow := (Option.some.inj (h1.symm.trans tn_X5_findRow)); subst h2; exact Or.inl tj_X5_99⟩))), fun _ h => absurd h List.not_mem_nil⟩⟩
set_option maxRecDepth 100000 in
theorem tw_X5_countRows_code : Jvm.Cond.code yX5_countRows cX5_countRows 2 none ∈ tb_GT := tb_mem 423 (rfl) rfl
theorem tw_X5_countRows_inst : Jvm.Cond.instanceMethod yX5_countRows ∈ tb_GT := tb_mem 422 (by decide +kernel) rfl
theorem tw_X5_countRows_sel : Jvm.Cond.selects RX5 yX5_countRows yX5_countRows ∈ tb_GT := tb_mem 22 (by decide +kernel) rfl
theorem tY_X5_countRows : mx_okY tb_cl tb_GT tm_X5_countRows := ⟨by decide +kernel, rfl, tw_X5_countRows_code, ti_X5, by decide +kernel, by decide +kernel, by decide +kernel, by decide, fun h => absurd h (by decide), fun _ => ⟨tw_X5_countRows_inst, tw_X5_countRows_sel, ⟨(RX5, TX5, 14), rfl, rfl⟩⟩, fun h => absurd h (by decide)⟩
theorem tj_X5_268 : Jvm.Cond.methodLink RX5 268 yX2_filling ∈ tb_GT := tb_mem 473 (by decide +kernel) rfl
theorem tj_X5_271 : Jvm.Cond.methodLink RX5 271 yX2_sectorOf ∈ tb_GT := tb_mem 477 (by decide +kernel) rfl
theorem tj_X5_118 : Jvm.Cond.methodLink RX5 118 yX4_store ∈ tb_GT := tb_mem 308 (by decide +kernel) rfl
theorem tL_X5_fillGaps : mx_okL tb_cl tb_GT tb_NW tb_MT tm_X5_fillGaps := ⟨List.forall_mem_cons.mpr ⟨⟨(RX5, TX5, 14), rfl, by decide, tf_X5_35⟩, List.forall_mem_cons.mpr ⟨⟨(RX5, TX5, 14), rfl, by decide, tf_X5_28⟩, List.forall_mem_cons.mpr ⟨⟨(RX5, TX5, 14), rfl, by decide, tf_X5_12⟩, List.forall_mem_cons.mpr ⟨⟨(RX5, TX5, 14), rfl, by decide, tf_X5_144⟩, fun _ h => absurd h List.not_mem_nil⟩⟩⟩⟩, fun _ h => absurd h List.not_mem_nil, fun _ h => absurd h List.not_mem_nil, fun _ h => absurd h List.not_mem_nil, List.forall_mem_cons.mpr ⟨Or.inr (Or.inr (Or.inr (Or.inr ⟨by decide, fun M1 h1 => by have h2 : M1 = tm_X2_size := (Option.some.inj (h1.symm.trans tn_X2_size)); subst h2; exact Or.inl tj_X5_267⟩))), List.forall_mem_cons.mpr ⟨Or.inr (Or.inr (Or.inr (Or.inr ⟨by decide, fun M1 h1 => by have h2 : M1 = tm_X0_begin := (Option.some.inj (h1.symm.trans tn_X0_begin)); subst h2; exact Or.inl tj_X5_84⟩))), List.forall_mem_cons.mpr ⟨Or.inr (Or.inr (Or.inr (Or.inr ⟨by decide, fun M1 h1 => by have h2 : M1 = tm_X2_filling := (Option.some.inj (h1.symm.trans tn_X2_filling)); subst h2; exact Or.inl tj_X5_268⟩))), List.forall_mem_cons.mpr ⟨Or.inr (Or.inr (Or.inr (Or.inr ⟨by decide, fun M1 h1 => by have h2 : M1 = tm_X0_setContent := (Option.some.inj (h1.symm.trans tn_X0_setContent)); subst h2; exact Or.inl tj_X5_88⟩))), List.forall_mem_cons.mpr ⟨Or.inr (Or.inr (Or.inr (Or.inr ⟨by decide, fun M1 h1 => by have h2 : M1 = tm_X0_seal := (Option.some.inj (h1.symm.trans tn_X0_seal)); subst h2; exact Or.inl tj_X5_231⟩))), List.forall_mem_cons.mpr ⟨Or.inr (Or.inr (Or.inr (Or.inr ⟨by decide, fun M1 h1 => by have h2 : M1 = tm_X2_sectorOf := (Option.some.inj (h1.symm.trans tn_X2_sectorOf)); subst h2; exact Or.inl tj_X5_271⟩))), List.forall_mem_cons.mpr ⟨Or.inr (Or.inr (Or.inr (Or.inr ⟨by decide, fun M1 h1 => by have h2 : M1 = tm_X4_store := (Option.some.inj (h1.symm.trans tn_X4_store)); subst h2; exact Or.inl tj_X5_118⟩))), fun _ h => absurd h List.not_mem_nil⟩⟩⟩⟩⟩⟩⟩⟩
set_option maxRecDepth 100000 in
theorem tw_X5_fillGaps_code : Jvm.Cond.code yX5_fillGaps cX5_fillGaps 4 none ∈ tb_GT := tb_mem 472 (rfl) rfl
theorem tw_X5_fillGaps_inst : Jvm.Cond.instanceMethod yX5_fillGaps ∈ tb_GT := tb_mem 471 (by decide +kernel) rfl
theorem tw_X5_fillGaps_sel : Jvm.Cond.selects RX5 yX5_fillGaps yX5_fillGaps ∈ tb_GT := tb_mem 27 (by decide +kernel) rfl
theorem tY_X5_fillGaps : mx_okY tb_cl tb_GT tm_X5_fillGaps := ⟨by decide +kernel, rfl, tw_X5_fillGaps_code, ti_X5, by decide +kernel, by decide +kernel, by decide +kernel, by decide, fun h => absurd h (by decide), fun _ => ⟨tw_X5_fillGaps_inst, tw_X5_fillGaps_sel, ⟨(RX5, TX5, 14), rfl, rfl⟩⟩, fun h => absurd h (by decide)⟩
theorem tj_X5_211 : Jvm.Cond.methodLink RX5 211 yX4_hasContentOf ∈ tb_GT := tb_mem 268 (by decide +kernel) rfl
theorem tL_X5_findDraftedBlock : mx_okL tb_cl tb_GT tb_NW tb_MT tm_X5_findDraftedBlock := ⟨List.forall_mem_cons.mpr ⟨⟨(RX5, TX5, 14), rfl, by decide, tf_X5_50⟩, List.forall_mem_cons.mpr ⟨⟨(RX5, TX5, 14), rfl, by decide, tf_X5_12⟩, List.forall_mem_cons.mpr ⟨⟨(RX5, TX5, 14), rfl, by decide, tf_X5_28⟩, fun _ h => absurd h List.not_mem_nil⟩⟩⟩, fun _ h => absurd h List.not_mem_nil, fun _ h => absurd h List.not_mem_nil, fun _ h => absurd h List.not_mem_nil, List.forall_mem_cons.mpr ⟨Or.inr (Or.inr (Or.inr (Or.inr ⟨by decide, fun M1 h1 => by have h2 : M1 = tm_X5_isBlock := (Option.some.inj (h1.symm.trans tn_X5_isBlock)); subst h2; exact Or.inl tj_X5_164⟩))), List.forall_mem_cons.mpr ⟨Or.inr (Or.inr (Or.inr (Or.inr ⟨by decide, fun M1 h1 => by have h2 : M1 = tm_X4_hasContentOf := (Option.some.inj (h1.symm.trans tn_X4_hasContentOf)); subst h2; exact Or.inl tj_X5_211⟩))), fun _ h => absurd h List.not_mem_nil⟩⟩⟩
set_option maxRecDepth 100000 in
theorem tw_X5_findDraftedBlock_code : Jvm.Cond.code yX5_findDraftedBlock cX5_findDraftedBlock 2 (some .int) ∈ tb_GT := tb_mem 251 (rfl) rfl
theorem tw_X5_findDraftedBlock_inst : Jvm.Cond.instanceMethod yX5_findDraftedBlock ∈ tb_GT := tb_mem 250 (by decide +kernel) rfl
theorem tw_X5_findDraftedBlock_sel : Jvm.Cond.selects RX5 yX5_findDraftedBlock yX5_findDraftedBlock ∈ tb_GT := tb_mem 3 (by decide +kernel) rfl
theorem tY_X5_findDraftedBlock : mx_okY tb_cl tb_GT tm_X5_findDraftedBlock := ⟨by decide +kernel, rfl, tw_X5_findDraftedBlock_code, ti_X5, by decide +kernel, by decide +kernel, by decide +kernel, by decide, fun h => absurd h (by decide), fun _ => ⟨tw_X5_findDraftedBlock_inst, tw_X5_findDraftedBlock_sel, ⟨(RX5, TX5, 14), rfl, rfl⟩⟩, fun h => absurd h (by decide)⟩
theorem tj_X5_189 : Jvm.Cond.methodLink RX5 189 yX4_flip ∈ tb_GT := tb_mem 499 (by decide +kernel) rfl
theorem tL_X5_poke : mx_okL tb_cl tb_GT tb_NW tb_MT tm_X5_poke := ⟨List.forall_mem_cons.mpr ⟨⟨(RX5, TX5, 14), rfl, by decide, tf_X5_12⟩, fun _ h => absurd h List.not_mem_nil⟩, fun _ h => absurd h List.not_mem_nil, fun _ h => absurd h List.not_mem_nil, fun _ h => absurd h List.not_mem_nil, List.forall_mem_cons.mpr ⟨Or.inr (Or.inr (Or.inr (Or.inr ⟨by decide, fun M1 h1 => by have h2 : M1 = tm_X4_hasCell := (Option.some.inj (h1.symm.trans tn_X4_hasCell)); subst h2; exact Or.inl tj_X5_185⟩))), List.forall_mem_cons.mpr ⟨Or.inr (Or.inr (Or.inr (Or.inr ⟨by decide, fun M1 h1 => by have h2 : M1 = tm_X4_flip := (Option.some.inj (h1.symm.trans tn_X4_flip)); subst h2; exact Or.inl tj_X5_189⟩))), List.forall_mem_cons.mpr ⟨Or.inr (Or.inr (Or.inr (Or.inr ⟨by decide, fun M1 h1 => by have h2 : M1 = tm_X4_cell := (Option.some.inj (h1.symm.trans tn_X4_cell)); subst h2; exact Or.inl tj_X5_170⟩))), fun _ h => absurd h List.not_mem_nil⟩⟩⟩⟩
set_option maxRecDepth 100000 in
theorem tw_X5_poke_code : Jvm.Cond.code yX5_poke cX5_poke 4 (some .int) ∈ tb_GT := tb_mem 497 (rfl) rfl
theorem tw_X5_poke_inst : Jvm.Cond.instanceMethod yX5_poke ∈ tb_GT := tb_mem 495 (by decide +kernel) rfl
theorem tw_X5_poke_sel : Jvm.Cond.selects RX5 yX5_poke yX5_poke ∈ tb_GT := tb_mem 496 (by decide +kernel) rfl
theorem tY_X5_poke : mx_okY tb_cl tb_GT tm_X5_poke := ⟨by decide +kernel, rfl, tw_X5_poke_code, ti_X5, by decide +kernel, by decide +kernel, by decide +kernel, by decide, fun h => absurd h (by decide), fun _ => ⟨tw_X5_poke_inst, tw_X5_poke_sel, ⟨(RX5, TX5, 14), rfl, rfl⟩⟩, fun h => absurd h (by decide)⟩
theorem tL_X5_symbolByte : mx_okL tb_cl tb_GT tb_NW tb_MT tm_X5_symbolByte := ⟨List.forall_mem_cons.mpr ⟨⟨(RX5, TX5, 14), rfl, by decide, tf_X5_12⟩, fun _ h => absurd h List.not_mem_nil⟩, fun _ h => absurd h List.not_mem_nil, fun _ h => absurd h List.not_mem_nil, fun _ h => absurd h List.not_mem_nil, List.forall_mem_cons.mpr ⟨Or.inr (Or.inr (Or.inr (Or.inr ⟨by decide, fun M1 h1 => by have h2 : M1 = tm_X5_blocksOfRow := (Option.some.inj (h1.symm.trans tn_X5_blocksOfRow)); subst h2; exact Or.inl tj_X5_167⟩))), List.forall_mem_cons.mpr ⟨Or.inr (Or.inr (Or.inr (Or.inr ⟨by decide, fun M1 h1 => by have h2 : M1 = tm_X4_content := (Option.some.inj (h1.symm.trans tn_X4_content)); subst h2; exact Or.inl tj_X5_160⟩))), List.forall_mem_cons.mpr ⟨Or.inr (Or.inr (Or.inr (Or.inr ⟨by decide, fun M1 h1 => by have h2 : M1 = tm_X5_isBlock := (Option.some.inj (h1.symm.trans tn_X5_isBlock)); subst h2; exact Or.inl tj_X5_164⟩))), List.forall_mem_cons.mpr ⟨Or.inr (Or.inr (Or.inr (Or.inr ⟨by decide, fun M1 h1 => by have h2 : M1 = tm_X1_twice := (Option.some.inj (h1.symm.trans tn_X1_twice)); subst h2; exact Or.inl tj_X5_220⟩))), fun _ h => absurd h List.not_mem_nil⟩⟩⟩⟩⟩
set_option maxRecDepth 100000 in
theorem tw_X5_symbolByte_code : Jvm.Cond.code yX5_symbolByte cX5_symbolByte 8 (some .int) ∈ tb_GT := tb_mem 353 (rfl) rfl
theorem tw_X5_symbolByte_inst : Jvm.Cond.instanceMethod yX5_symbolByte ∈ tb_GT := tb_mem 352 (by decide +kernel) rfl
theorem tw_X5_symbolByte_sel : Jvm.Cond.selects RX5 yX5_symbolByte yX5_symbolByte ∈ tb_GT := tb_mem 14 (by decide +kernel) rfl
theorem tY_X5_symbolByte : mx_okY tb_cl tb_GT tm_X5_symbolByte := ⟨by decide +kernel, rfl, tw_X5_symbolByte_code, ti_X5, by decide +kernel, by decide +kernel, by decide +kernel, by decide, fun h => absurd h (by decide), fun _ => ⟨tw_X5_symbolByte_inst, tw_X5_symbolByte_sel, ⟨(RX5, TX5, 14), rfl, rfl⟩⟩, fun h => absurd h (by decide)⟩
theorem tj_X5_112 : Jvm.Cond.methodLink RX5 112 yX5_draftHead ∈ tb_GT := tb_mem 361 (by decide +kernel) rfl
theorem tj_X5_115 : Jvm.Cond.methodLink RX5 115 yX5_headSector ∈ tb_GT := tb_mem 365 (by decide +kernel) rfl
theorem tj_X5_122 : Jvm.Cond.methodLink RX5 122 yX3_clear ∈ tb_GT := tb_mem 368 (by decide +kernel) rfl
theorem tL_X5_sync : mx_okL tb_cl tb_GT tb_NW tb_MT tm_X5_sync := ⟨List.forall_mem_cons.mpr ⟨⟨(RX5, TX5, 14), rfl, by decide, tf_X5_46⟩, List.forall_mem_cons.mpr ⟨⟨(RX5, TX5, 14), rfl, by decide, tf_X5_109⟩, List.forall_mem_cons.mpr ⟨⟨(RX5, TX5, 14), rfl, by decide, tf_X5_12⟩, List.forall_mem_cons.mpr ⟨⟨(RX5, TX5, 14), rfl, by decide, tf_X5_28⟩, List.forall_mem_cons.mpr ⟨⟨(RX5, TX5, 14), rfl, by decide, tf_X5_21⟩, fun _ h => absurd h List.not_mem_nil⟩⟩⟩⟩⟩, fun _ h => absurd h List.not_mem_nil, fun _ h => absurd h List.not_mem_nil, fun _ h => absurd h List.not_mem_nil, List.forall_mem_cons.mpr ⟨Or.inr (Or.inr (Or.inr (Or.inr ⟨by decide, fun M1 h1 => by have h2 : M1 = tm_X5_draftHead := (Option.some.inj (h1.symm.trans tn_X5_draftHead)); subst h2; exact Or.inl tj_X5_112⟩))), List.forall_mem_cons.mpr ⟨Or.inr (Or.inr (Or.inr (Or.inr ⟨by decide, fun M1 h1 => by have h2 : M1 = tm_X5_headSector := (Option.some.inj (h1.symm.trans tn_X5_headSector)); subst h2; exact Or.inl tj_X5_115⟩))), List.forall_mem_cons.mpr ⟨Or.inr (Or.inr (Or.inr (Or.inr ⟨by decide, fun M1 h1 => by have h2 : M1 = tm_X4_store := (Option.some.inj (h1.symm.trans tn_X4_store)); subst h2; exact Or.inl tj_X5_118⟩))), List.forall_mem_cons.mpr ⟨Or.inr (Or.inr (Or.inr (Or.inr ⟨by decide, fun M1 h1 => by have h2 : M1 = tm_X3_clear := (Option.some.inj (h1.symm.trans tn_X3_clear)); subst h2; exact Or.inl tj_X5_122⟩))), fun _ h => absurd h List.not_mem_nil⟩⟩⟩⟩⟩
set_option maxRecDepth 100000 in
theorem tw_X5_sync_code : Jvm.Cond.code yX5_sync cX5_sync 1 (some .int) ∈ tb_GT := tb_mem 360 (rfl) rfl
theorem tw_X5_sync_inst : Jvm.Cond.instanceMethod yX5_sync ∈ tb_GT := tb_mem 358 (by decide +kernel) rfl
theorem tw_X5_sync_sel : Jvm.Cond.selects RX5 yX5_sync yX5_sync ∈ tb_GT := tb_mem 359 (by decide +kernel) rfl
theorem tY_X5_sync : mx_okY tb_cl tb_GT tm_X5_sync := ⟨by decide +kernel, rfl, tw_X5_sync_code, ti_X5, by decide +kernel, by decide +kernel, by decide +kernel, by decide, fun h => absurd h (by decide), fun _ => ⟨tw_X5_sync_inst, tw_X5_sync_sel, ⟨(RX5, TX5, 14), rfl, rfl⟩⟩, fun h => absurd h (by decide)⟩
theorem tL_X5_tearHead : mx_okL tb_cl tb_GT tb_NW tb_MT tm_X5_tearHead := ⟨List.forall_mem_cons.mpr ⟨⟨(RX5, TX5, 14), rfl, by decide, tf_X5_109⟩, List.forall_mem_cons.mpr ⟨⟨(RX5, TX5, 14), rfl, by decide, tf_X5_12⟩, List.forall_mem_cons.mpr ⟨⟨(RX5, TX5, 14), rfl, by decide, tf_X5_28⟩, fun _ h => absurd h List.not_mem_nil⟩⟩⟩, fun _ h => absurd h List.not_mem_nil, fun _ h => absurd h List.not_mem_nil, fun _ h => absurd h List.not_mem_nil, List.forall_mem_cons.mpr ⟨Or.inr (Or.inr (Or.inr (Or.inr ⟨by decide, fun M1 h1 => by have h2 : M1 = tm_X5_draftHead := (Option.some.inj (h1.symm.trans tn_X5_draftHead)); subst h2; exact Or.inl tj_X5_112⟩))), List.forall_mem_cons.mpr ⟨Or.inr (Or.inr (Or.inr (Or.inr ⟨by decide, fun M1 h1 => by have h2 : M1 = tm_X5_headSector := (Option.some.inj (h1.symm.trans tn_X5_headSector)); subst h2; exact Or.inl tj_X5_115⟩))), List.forall_mem_cons.mpr ⟨Or.inr (Or.inr (Or.inr (Or.inr ⟨by decide, fun M1 h1 => by have h2 : M1 = tm_X4_store := (Option.some.inj (h1.symm.trans tn_X4_store)); subst h2; exact Or.inl tj_X5_118⟩))), fun _ h => absurd h List.not_mem_nil⟩⟩⟩⟩
set_option maxRecDepth 100000 in
theorem tw_X5_tearHead_code : Jvm.Cond.code yX5_tearHead cX5_tearHead 3 none ∈ tb_GT := tb_mem 383 (rfl) rfl
theorem tw_X5_tearHead_inst : Jvm.Cond.instanceMethod yX5_tearHead ∈ tb_GT := tb_mem 382 (by decide +kernel) rfl
theorem tw_X5_tearHead_sel : Jvm.Cond.selects RX5 yX5_tearHead yX5_tearHead ∈ tb_GT := tb_mem 16 (by decide +kernel) rfl
theorem tY_X5_tearHead : mx_okY tb_cl tb_GT tm_X5_tearHead := ⟨by decide +kernel, rfl, tw_X5_tearHead_code, ti_X5, by decide +kernel, by decide +kernel, by decide +kernel, by decide, fun h => absurd h (by decide), fun _ => ⟨tw_X5_tearHead_inst, tw_X5_tearHead_sel, ⟨(RX5, TX5, 14), rfl, rfl⟩⟩, fun h => absurd h (by decide)⟩
theorem tj_X5_234 : Jvm.Cond.methodLink RX5 234 yX3_note ∈ tb_GT := tb_mem 293 (by decide +kernel) rfl
theorem tL_X5_writeNext : mx_okL tb_cl tb_GT tb_NW tb_MT tm_X5_writeNext := ⟨List.forall_mem_cons.mpr ⟨⟨(RX5, TX5, 14), rfl, by decide, tf_X5_12⟩, List.forall_mem_cons.mpr ⟨⟨(RX5, TX5, 14), rfl, by decide, tf_X5_50⟩, List.forall_mem_cons.mpr ⟨⟨(RX5, TX5, 14), rfl, by decide, tf_X5_28⟩, List.forall_mem_cons.mpr ⟨⟨(RX5, TX5, 14), rfl, by decide, tf_X5_21⟩, fun _ h => absurd h List.not_mem_nil⟩⟩⟩⟩, fun _ h => absurd h List.not_mem_nil, fun _ h => absurd h List.not_mem_nil, fun _ h => absurd h List.not_mem_nil, List.forall_mem_cons.mpr ⟨Or.inr (Or.inr (Or.inr (Or.inr ⟨by decide, fun M1 h1 => by have h2 : M1 = tm_X4_has := (Option.some.inj (h1.symm.trans tn_X4_has)); subst h2; exact Or.inl tj_X5_176⟩))), List.forall_mem_cons.mpr ⟨Or.inr (Or.inr (Or.inr (Or.inr ⟨by decide, fun M1 h1 => by have h2 : M1 = tm_X0_seal := (Option.some.inj (h1.symm.trans tn_X0_seal)); subst h2; exact Or.inl tj_X5_231⟩))), List.forall_mem_cons.mpr ⟨Or.inr (Or.inr (Or.inr (Or.inr ⟨by decide, fun M1 h1 => by have h2 : M1 = tm_X3_note := (Option.some.inj (h1.symm.trans tn_X3_note)); subst h2; exact Or.inl tj_X5_234⟩))), List.forall_mem_cons.mpr ⟨Or.inr (Or.inr (Or.inr (Or.inr ⟨by decide, fun M1 h1 => by have h2 : M1 = tm_X4_store := (Option.some.inj (h1.symm.trans tn_X4_store)); subst h2; exact Or.inl tj_X5_118⟩))), fun _ h => absurd h List.not_mem_nil⟩⟩⟩⟩⟩
set_option maxRecDepth 100000 in
theorem tw_X5_writeNext_code : Jvm.Cond.code yX5_writeNext cX5_writeNext 1 (some .int) ∈ tb_GT := tb_mem 283 (rfl) rfl
theorem tw_X5_writeNext_inst : Jvm.Cond.instanceMethod yX5_writeNext ∈ tb_GT := tb_mem 282 (by decide +kernel) rfl
theorem tw_X5_writeNext_sel : Jvm.Cond.selects RX5 yX5_writeNext yX5_writeNext ∈ tb_GT := tb_mem 6 (by decide +kernel) rfl
theorem tY_X5_writeNext : mx_okY tb_cl tb_GT tm_X5_writeNext := ⟨by decide +kernel, rfl, tw_X5_writeNext_code, ti_X5, by decide +kernel, by decide +kernel, by decide +kernel, by decide, fun h => absurd h (by decide), fun _ => ⟨tw_X5_writeNext_inst, tw_X5_writeNext_sel, ⟨(RX5, TX5, 14), rfl, rfl⟩⟩, fun h => absurd h (by decide)⟩
theorem tj_X6_96 : Jvm.Cond.methodLink RX6 96 yX6_write ∈ tb_GT := tb_mem 738 (by decide +kernel) rfl
theorem tL_X6_append : mx_okL tb_cl tb_GT tb_NW tb_MT tm_X6_append := ⟨List.forall_mem_cons.mpr ⟨⟨(RX6, TX6, 27), rfl, by decide, tf_X6_21⟩, fun _ h => absurd h List.not_mem_nil⟩, fun _ h => absurd h List.not_mem_nil, fun _ h => absurd h List.not_mem_nil, fun _ h => absurd h List.not_mem_nil, List.forall_mem_cons.mpr ⟨Or.inr (Or.inr (Or.inr (Or.inr ⟨by decide, fun M1 h1 => by have h2 : M1 = tm_X6_write := (Option.some.inj (h1.symm.trans tn_X6_write)); subst h2; exact Or.inl tj_X6_96⟩))), fun _ h => absurd h List.not_mem_nil⟩⟩
set_option maxRecDepth 100000 in
theorem tw_X6_append_code : Jvm.Cond.code yX6_append cX6_append 1 (some .int) ∈ tb_GT := tb_mem 737 (rfl) rfl
theorem tw_X6_append_inst : Jvm.Cond.instanceMethod yX6_append ∈ tb_GT := tb_mem 736 (by decide +kernel) rfl
theorem tw_X6_append_sel : Jvm.Cond.selects RX6 yX6_append yX6_append ∈ tb_GT := tb_mem 33 (by decide +kernel) rfl
theorem tY_X6_append : mx_okY tb_cl tb_GT tm_X6_append := ⟨by decide +kernel, rfl, tw_X6_append_code, ti_X6, by decide +kernel, by decide +kernel, by decide +kernel, by decide, fun h => absurd h (by decide), fun _ => ⟨tw_X6_append_inst, tw_X6_append_sel, ⟨(RX6, TX6, 27), rfl, rfl⟩⟩, fun h => absurd h (by decide)⟩
theorem tj_X6_141 : Jvm.Cond.methodLink RX6 141 yX6_isRow ∈ tb_GT := tb_mem 750 (by decide +kernel) rfl
theorem tj_X6_144 : Jvm.Cond.methodLink RX6 144 yX6_sectorOf ∈ tb_GT := tb_mem 754 (by decide +kernel) rfl
theorem tj_X6_109 : Jvm.Cond.methodLink RX6 109 yX6_blockAt ∈ tb_GT := tb_mem 770 (by decide +kernel) rfl
theorem tj_X6_113 : Jvm.Cond.methodLink RX6 113 yX6_isBlock ∈ tb_GT := tb_mem 774 (by decide +kernel) rfl
theorem tL_X6_at : mx_okL tb_cl tb_GT tb_NW tb_MT tm_X6_at := ⟨List.forall_mem_cons.mpr ⟨⟨(RX6, TX6, 27), rfl, by decide, tf_X6_70⟩, List.forall_mem_cons.mpr ⟨⟨(RX6, TX6, 27), rfl, by decide, tf_X6_17⟩, List.forall_mem_cons.mpr ⟨⟨(RX6, TX6, 27), rfl, by decide, tf_X6_7⟩, fun _ h => absurd h List.not_mem_nil⟩⟩⟩, fun _ h => absurd h List.not_mem_nil, fun _ h => absurd h List.not_mem_nil, fun _ h => absurd h List.not_mem_nil, List.forall_mem_cons.mpr ⟨Or.inr (Or.inr (Or.inr (Or.inr ⟨by decide, fun M1 h1 => by have h2 : M1 = tm_X6_isRow := (Option.some.inj (h1.symm.trans tn_X6_isRow)); subst h2; exact Or.inl tj_X6_141⟩))), List.forall_mem_cons.mpr ⟨Or.inr (Or.inr (Or.inr (Or.inr ⟨by decide, fun M1 h1 => by have h2 : M1 = tm_X6_sectorOf := (Option.some.inj (h1.symm.trans tn_X6_sectorOf)); subst h2; exact Or.inl tj_X6_144⟩))), List.forall_mem_cons.mpr ⟨Or.inr (Or.inr (Or.inr (Or.inr ⟨by decide, fun M1 h1 => by have h2 : M1 = tm_X6_sizeAt := (Option.some.inj (h1.symm.trans tn_X6_sizeAt)); subst h2; exact Or.inl tj_X6_103⟩))), List.forall_mem_cons.mpr ⟨Or.inr (Or.inr (Or.inr (Or.inr ⟨by decide, fun M1 h1 => by have h2 : M1 = tm_X6_blockAt := (Option.some.inj (h1.symm.trans tn_X6_blockAt)); subst h2; exact Or.inl tj_X6_109⟩))), List.forall_mem_cons.mpr ⟨Or.inr (Or.inr (Or.inr (Or.inr ⟨by decide, fun M1 h1 => by have h2 : M1 = tm_X6_isBlock := (Option.some.inj (h1.symm.trans tn_X6_isBlock)); subst h2; exact Or.inl tj_X6_113⟩))), fun _ h => absurd h List.not_mem_nil⟩⟩⟩⟩⟩⟩
set_option maxRecDepth 100000 in
theorem tw_X6_at_code : Jvm.Cond.code yX6_at cX6_at 5 (some .int) ∈ tb_GT := tb_mem 849 (rfl) rfl
theorem tw_X6_at_inst : Jvm.Cond.instanceMethod yX6_at ∈ tb_GT := tb_mem 847 (by decide +kernel) rfl
theorem tw_X6_at_sel : Jvm.Cond.selects RX6 yX6_at yX6_at ∈ tb_GT := tb_mem 848 (by decide +kernel) rfl
theorem tY_X6_at : mx_okY tb_cl tb_GT tm_X6_at := ⟨by decide +kernel, rfl, tw_X6_at_code, ti_X6, by decide +kernel, by decide +kernel, by decide +kernel, by decide, fun h => absurd h (by decide), fun _ => ⟨tw_X6_at_inst, tw_X6_at_sel, ⟨(RX6, TX6, 27), rfl, rfl⟩⟩, fun h => absurd h (by decide)⟩
theorem tj_X6_156 : Jvm.Cond.methodLink RX6 156 yX6_head ∈ tb_GT := tb_mem 795 (by decide +kernel) rfl
theorem tL_X6_cut : mx_okL tb_cl tb_GT tb_NW tb_MT tm_X6_cut := ⟨List.forall_mem_cons.mpr ⟨⟨(RX6, TX6, 27), rfl, by decide, tf_X6_70⟩, List.forall_mem_cons.mpr ⟨⟨(RX6, TX6, 27), rfl, by decide, tf_X6_93⟩, List.forall_mem_cons.mpr ⟨⟨(RX6, TX6, 27), rfl, by decide, tf_X6_17⟩, List.forall_mem_cons.mpr ⟨⟨(RX6, TX6, 27), rfl, by decide, tf_X6_153⟩, List.forall_mem_cons.mpr ⟨⟨(RX6, TX6, 27), rfl, by decide, tf_X6_31⟩, List.forall_mem_cons.mpr ⟨⟨(RX6, TX6, 27), rfl, by decide, tf_X6_7⟩, List.forall_mem_cons.mpr ⟨⟨(RX6, TX6, 27), rfl, by decide, tf_X6_34⟩, List.forall_mem_cons.mpr ⟨⟨(RX6, TX6, 27), rfl, by decide, tf_X6_13⟩, List.forall_mem_cons.mpr ⟨⟨(RX6, TX6, 27), rfl, by decide, tf_X6_37⟩, List.forall_mem_cons.mpr ⟨⟨(RX6, TX6, 27), rfl, by decide, tf_X6_25⟩, fun _ h => absurd h List.not_mem_nil⟩⟩⟩⟩⟩⟩⟩⟩⟩⟩, fun _ h => absurd h List.not_mem_nil, fun _ h => absurd h List.not_mem_nil, fun _ h => absurd h List.not_mem_nil, List.forall_mem_cons.mpr ⟨Or.inr (Or.inr (Or.inr (Or.inr ⟨by decide, fun M1 h1 => by have h2 : M1 = tm_X6_in := (Option.some.inj (h1.symm.trans tn_X6_in)); subst h2; exact Or.inl tj_X6_73⟩))), List.forall_mem_cons.mpr ⟨Or.inr (Or.inr (Or.inr (Or.inr ⟨by decide, fun M1 h1 => by have h2 : M1 = tm_X6_head := (Option.some.inj (h1.symm.trans tn_X6_head)); subst h2; exact Or.inl tj_X6_156⟩))), List.forall_mem_cons.mpr ⟨Or.inr (Or.inr (Or.inr (Or.inr ⟨by decide, fun M1 h1 => by have h2 : M1 = tm_X6_write := (Option.some.inj (h1.symm.trans tn_X6_write)); subst h2; exact Or.inl tj_X6_96⟩))), fun _ h => absurd h List.not_mem_nil⟩⟩⟩⟩
set_option maxRecDepth 100000 in
theorem tw_X6_cut_code : Jvm.Cond.code yX6_cut cX6_cut 6 (some .int) ∈ tb_GT := tb_mem 802 (rfl) rfl
theorem tw_X6_cut_inst : Jvm.Cond.instanceMethod yX6_cut ∈ tb_GT := tb_mem 800 (by decide +kernel) rfl
theorem tw_X6_cut_sel : Jvm.Cond.selects RX6 yX6_cut yX6_cut ∈ tb_GT := tb_mem 801 (by decide +kernel) rfl
theorem tY_X6_cut : mx_okY tb_cl tb_GT tm_X6_cut := ⟨by decide +kernel, rfl, tw_X6_cut_code, ti_X6, by decide +kernel, by decide +kernel, by decide +kernel, by decide, fun h => absurd h (by decide), fun _ => ⟨tw_X6_cut_inst, tw_X6_cut_sel, ⟨(RX6, TX6, 27), rfl, rfl⟩⟩, fun h => absurd h (by decide)⟩
theorem tL_X6_fill : mx_okL tb_cl tb_GT tb_NW tb_MT tm_X6_fill := ⟨List.forall_mem_cons.mpr ⟨⟨(RX6, TX6, 27), rfl, by decide, tf_X6_40⟩, List.forall_mem_cons.mpr ⟨⟨(RX6, TX6, 27), rfl, by decide, tf_X6_93⟩, List.forall_mem_cons.mpr ⟨⟨(RX6, TX6, 27), rfl, by decide, tf_X6_165⟩, fun _ h => absurd h List.not_mem_nil⟩⟩⟩, fun _ h => absurd h List.not_mem_nil, fun _ h => absurd h List.not_mem_nil, fun _ h => absurd h List.not_mem_nil, List.forall_mem_cons.mpr ⟨Or.inr (Or.inr (Or.inr (Or.inr ⟨by decide, fun M1 h1 => by have h2 : M1 = tm_X6_begin := (Option.some.inj (h1.symm.trans tn_X6_begin)); subst h2; exact Or.inl tj_X6_121⟩))), List.forall_mem_cons.mpr ⟨Or.inr (Or.inr (Or.inr (Or.inr ⟨by decide, fun M1 h1 => by have h2 : M1 = tm_X6_write := (Option.some.inj (h1.symm.trans tn_X6_write)); subst h2; exact Or.inl tj_X6_96⟩))), fun _ h => absurd h List.not_mem_nil⟩⟩⟩
set_option maxRecDepth 100000 in
theorem tw_X6_fill_code : Jvm.Cond.code yX6_fill cX6_fill 4 none ∈ tb_GT := tb_mem 845 (rfl) rfl
theorem tw_X6_fill_inst : Jvm.Cond.instanceMethod yX6_fill ∈ tb_GT := tb_mem 844 (by decide +kernel) rfl
theorem tw_X6_fill_sel : Jvm.Cond.selects RX6 yX6_fill yX6_fill ∈ tb_GT := tb_mem 53 (by decide +kernel) rfl
theorem tY_X6_fill : mx_okY tb_cl tb_GT tm_X6_fill := ⟨by decide +kernel, rfl, tw_X6_fill_code, ti_X6, by decide +kernel, by decide +kernel, by decide +kernel, by decide, fun h => absurd h (by decide), fun _ => ⟨tw_X6_fill_inst, tw_X6_fill_sel, ⟨(RX6, TX6, 27), rfl, rfl⟩⟩, fun h => absurd h (by decide)⟩
theorem tj_X6_106 : Jvm.Cond.methodLink RX6 106 yX6_blocksAt ∈ tb_GT := tb_mem 762 (by decide +kernel) rfl
theorem tj_X6_150 : Jvm.Cond.methodLink RX6 150 yX6_weight ∈ tb_GT := tb_mem 782 (by decide +kernel) rfl
theorem tL_X6_findRest : mx_okL tb_cl tb_GT tb_NW tb_MT tm_X6_findRest := ⟨List.forall_mem_cons.mpr ⟨⟨(RX6, TX6, 27), rfl, by decide, tf_X6_7⟩, fun _ h => absurd h List.not_mem_nil⟩, fun _ h => absurd h List.not_mem_nil, fun _ h => absurd h List.not_mem_nil, fun _ h => absurd h List.not_mem_nil, List.forall_mem_cons.mpr ⟨Or.inr (Or.inr (Or.inr (Or.inr ⟨by decide, fun M1 h1 => by have h2 : M1 = tm_X6_blocksAt := (Option.some.inj (h1.symm.trans tn_X6_blocksAt)); subst h2; exact Or.inl tj_X6_106⟩))), List.forall_mem_cons.mpr ⟨Or.inr (Or.inr (Or.inr (Or.inr ⟨by decide, fun M1 h1 => by have h2 : M1 = tm_X6_blockAt := (Option.some.inj (h1.symm.trans tn_X6_blockAt)); subst h2; exact Or.inl tj_X6_109⟩))), List.forall_mem_cons.mpr ⟨Or.inr (Or.inr (Or.inr (Or.inr ⟨by decide, fun M1 h1 => by have h2 : M1 = tm_X6_isBlock := (Option.some.inj (h1.symm.trans tn_X6_isBlock)); subst h2; exact Or.inl tj_X6_113⟩))), List.forall_mem_cons.mpr ⟨Or.inr (Or.inr (Or.inr (Or.inr ⟨by decide, fun M1 h1 => by have h2 : M1 = tm_X6_weight := (Option.some.inj (h1.symm.trans tn_X6_weight)); subst h2; exact Or.inl tj_X6_150⟩))), List.forall_mem_cons.mpr ⟨Or.inr (Or.inr (Or.inr (Or.inr ⟨by decide, fun M1 h1 => by have h2 : M1 = tm_X6_product := (Option.some.inj (h1.symm.trans tn_X6_product)); subst h2; exact Or.inl tj_X6_138⟩))), fun _ h => absurd h List.not_mem_nil⟩⟩⟩⟩⟩⟩
set_option maxRecDepth 100000 in
theorem tw_X6_findRest_code : Jvm.Cond.code yX6_findRest cX6_findRest 9 none ∈ tb_GT := tb_mem 830 (rfl) rfl
theorem tw_X6_findRest_inst : Jvm.Cond.instanceMethod yX6_findRest ∈ tb_GT := tb_mem 829 (by decide +kernel) rfl
theorem tw_X6_findRest_sel : Jvm.Cond.selects RX6 yX6_findRest yX6_findRest ∈ tb_GT := tb_mem 50 (by decide +kernel) rfl
theorem tY_X6_findRest : mx_okY tb_cl tb_GT tm_X6_findRest := ⟨by decide +kernel, rfl, tw_X6_findRest_code, ti_X6, by decide +kernel, by decide +kernel, by decide +kernel, by decide, fun h => absurd h (by decide), fun _ => ⟨tw_X6_findRest_inst, tw_X6_findRest_sel, ⟨(RX6, TX6, 27), rfl, rfl⟩⟩, fun h => absurd h (by decide)⟩
theorem tf_X6_172 : Jvm.Cond.fieldLink RX6 172 "PackDiskModel" "unknowns" "I" ∈ tb_GT := tb_mem 639 (by decide +kernel) rfl
theorem tL_X6_findUnknown : mx_okL tb_cl tb_GT tb_NW tb_MT tm_X6_findUnknown := ⟨List.forall_mem_cons.mpr ⟨⟨(RX6, TX6, 27), rfl, by decide, tf_X6_172⟩, List.forall_mem_cons.mpr ⟨⟨(RX6, TX6, 27), rfl, by decide, tf_X6_46⟩, List.forall_mem_cons.mpr ⟨⟨(RX6, TX6, 27), rfl, by decide, tf_X6_49⟩, List.forall_mem_cons.mpr ⟨⟨(RX6, TX6, 27), rfl, by decide, tf_X6_52⟩, fun _ h => absurd h List.not_mem_nil⟩⟩⟩⟩, fun _ h => absurd h List.not_mem_nil, fun _ h => absurd h List.not_mem_nil, fun _ h => absurd h List.not_mem_nil, List.forall_mem_cons.mpr ⟨Or.inr (Or.inr (Or.inr (Or.inr ⟨by decide, fun M1 h1 => by have h2 : M1 = tm_X6_blocksAt := (Option.some.inj (h1.symm.trans tn_X6_blocksAt)); subst h2; exact Or.inl tj_X6_106⟩))), List.forall_mem_cons.mpr ⟨Or.inr (Or.inr (Or.inr (Or.inr ⟨by decide, fun M1 h1 => by have h2 : M1 = tm_X6_blockAt := (Option.some.inj (h1.symm.trans tn_X6_blockAt)); subst h2; exact Or.inl tj_X6_109⟩))), List.forall_mem_cons.mpr ⟨Or.inr (Or.inr (Or.inr (Or.inr ⟨by decide, fun M1 h1 => by have h2 : M1 = tm_X6_isBlock := (Option.some.inj (h1.symm.trans tn_X6_isBlock)); subst h2; exact Or.inl tj_X6_113⟩))), List.forall_mem_cons.mpr ⟨Or.inr (Or.inr (Or.inr (Or.inr ⟨by decide, fun M1 h1 => by have h2 : M1 = tm_X6_isInLog := (Option.some.inj (h1.symm.trans tn_X6_isInLog)); subst h2; exact Or.inl tj_X6_82⟩))), List.forall_mem_cons.mpr ⟨Or.inr (Or.inr (Or.inr (Or.inr ⟨by decide, fun M1 h1 => by have h2 : M1 = tm_X6_weight := (Option.some.inj (h1.symm.trans tn_X6_weight)); subst h2; exact Or.inl tj_X6_150⟩))), fun _ h => absurd h List.not_mem_nil⟩⟩⟩⟩⟩⟩
set_option maxRecDepth 100000 in
theorem tw_X6_findUnknown_code : Jvm.Cond.code yX6_findUnknown cX6_findUnknown 6 (some .boolean) ∈ tb_GT := tb_mem 822 (rfl) rfl
theorem tw_X6_findUnknown_inst : Jvm.Cond.instanceMethod yX6_findUnknown ∈ tb_GT := tb_mem 821 (by decide +kernel) rfl
theorem tw_X6_findUnknown_sel : Jvm.Cond.selects RX6 yX6_findUnknown yX6_findUnknown ∈ tb_GT := tb_mem 48 (by decide +kernel) rfl
theorem tY_X6_findUnknown : mx_okY tb_cl tb_GT tm_X6_findUnknown := ⟨by decide +kernel, rfl, tw_X6_findUnknown_code, ti_X6, by decide +kernel, by decide +kernel, by decide +kernel, by decide, fun h => absurd h (by decide), fun _ => ⟨tw_X6_findUnknown_inst, tw_X6_findUnknown_sel, ⟨(RX6, TX6, 27), rfl, rfl⟩⟩, fun h => absurd h (by decide)⟩
theorem tj_X6_175 : Jvm.Cond.methodLink RX6 175 yX6_quotient ∈ tb_GT := tb_mem 835 (by decide +kernel) rfl
theorem tL_X6_isOne : mx_okL tb_cl tb_GT tb_NW tb_MT tm_X6_isOne := ⟨List.forall_mem_cons.mpr ⟨⟨(RX6, TX6, 27), rfl, by decide, tf_X6_49⟩, List.forall_mem_cons.mpr ⟨⟨(RX6, TX6, 27), rfl, by decide, tf_X6_52⟩, List.forall_mem_cons.mpr ⟨⟨(RX6, TX6, 27), rfl, by decide, tf_X6_61⟩, List.forall_mem_cons.mpr ⟨⟨(RX6, TX6, 27), rfl, by decide, tf_X6_55⟩, List.forall_mem_cons.mpr ⟨⟨(RX6, TX6, 27), rfl, by decide, tf_X6_58⟩, fun _ h => absurd h List.not_mem_nil⟩⟩⟩⟩⟩, fun _ h => absurd h List.not_mem_nil, fun _ h => absurd h List.not_mem_nil, fun _ h => absurd h List.not_mem_nil, List.forall_mem_cons.mpr ⟨Or.inr (Or.inr (Or.inr (Or.inr ⟨by decide, fun M1 h1 => by have h2 : M1 = tm_X6_quotient := (Option.some.inj (h1.symm.trans tn_X6_quotient)); subst h2; exact Or.inl tj_X6_175⟩))), List.forall_mem_cons.mpr ⟨Or.inr (Or.inr (Or.inr (Or.inr ⟨by decide, fun M1 h1 => by have h2 : M1 = tm_X6_product := (Option.some.inj (h1.symm.trans tn_X6_product)); subst h2; exact Or.inl tj_X6_138⟩))), fun _ h => absurd h List.not_mem_nil⟩⟩⟩
set_option maxRecDepth 100000 in
theorem tw_X6_isOne_code : Jvm.Cond.code yX6_isOne cX6_isOne 7 (some .boolean) ∈ tb_GT := tb_mem 834 (rfl) rfl
theorem tw_X6_isOne_inst : Jvm.Cond.instanceMethod yX6_isOne ∈ tb_GT := tb_mem 833 (by decide +kernel) rfl
theorem tw_X6_isOne_sel : Jvm.Cond.selects RX6 yX6_isOne yX6_isOne ∈ tb_GT := tb_mem 51 (by decide +kernel) rfl
theorem tY_X6_isOne : mx_okY tb_cl tb_GT tm_X6_isOne := ⟨by decide +kernel, rfl, tw_X6_isOne_code, ti_X6, by decide +kernel, by decide +kernel, by decide +kernel, by decide, fun h => absurd h (by decide), fun _ => ⟨tw_X6_isOne_inst, tw_X6_isOne_sel, ⟨(RX6, TX6, 27), rfl, rfl⟩⟩, fun h => absurd h (by decide)⟩
theorem tL_X6_isTwo : mx_okL tb_cl tb_GT tb_NW tb_MT tm_X6_isTwo := ⟨List.forall_mem_cons.mpr ⟨⟨(RX6, TX6, 27), rfl, by decide, tf_X6_49⟩, List.forall_mem_cons.mpr ⟨⟨(RX6, TX6, 27), rfl, by decide, tf_X6_52⟩, List.forall_mem_cons.mpr ⟨⟨(RX6, TX6, 27), rfl, by decide, tf_X6_61⟩, List.forall_mem_cons.mpr ⟨⟨(RX6, TX6, 27), rfl, by decide, tf_X6_55⟩, List.forall_mem_cons.mpr ⟨⟨(RX6, TX6, 27), rfl, by decide, tf_X6_58⟩, List.forall_mem_cons.mpr ⟨⟨(RX6, TX6, 27), rfl, by decide, tf_X6_64⟩, fun _ h => absurd h List.not_mem_nil⟩⟩⟩⟩⟩⟩, fun _ h => absurd h List.not_mem_nil, fun _ h => absurd h List.not_mem_nil, fun _ h => absurd h List.not_mem_nil, List.forall_mem_cons.mpr ⟨Or.inr (Or.inr (Or.inr (Or.inr ⟨by decide, fun M1 h1 => by have h2 : M1 = tm_X6_product := (Option.some.inj (h1.symm.trans tn_X6_product)); subst h2; exact Or.inl tj_X6_138⟩))), List.forall_mem_cons.mpr ⟨Or.inr (Or.inr (Or.inr (Or.inr ⟨by decide, fun M1 h1 => by have h2 : M1 = tm_X6_quotient := (Option.some.inj (h1.symm.trans tn_X6_quotient)); subst h2; exact Or.inl tj_X6_175⟩))), fun _ h => absurd h List.not_mem_nil⟩⟩⟩
set_option maxRecDepth 100000 in
theorem tw_X6_isTwo_code : Jvm.Cond.code yX6_isTwo cX6_isTwo 4 (some .boolean) ∈ tb_GT := tb_mem 841 (rfl) rfl
theorem tw_X6_isTwo_inst : Jvm.Cond.instanceMethod yX6_isTwo ∈ tb_GT := tb_mem 840 (by decide +kernel) rfl
theorem tw_X6_isTwo_sel : Jvm.Cond.selects RX6 yX6_isTwo yX6_isTwo ∈ tb_GT := tb_mem 52 (by decide +kernel) rfl
theorem tY_X6_isTwo : mx_okY tb_cl tb_GT tm_X6_isTwo := ⟨by decide +kernel, rfl, tw_X6_isTwo_code, ti_X6, by decide +kernel, by decide +kernel, by decide +kernel, by decide, fun h => absurd h (by decide), fun _ => ⟨tw_X6_isTwo_inst, tw_X6_isTwo_sel, ⟨(RX6, TX6, 27), rfl, rfl⟩⟩, fun h => absurd h (by decide)⟩
theorem tL_X6_missingAt : mx_okL tb_cl tb_GT tb_NW tb_MT tm_X6_missingAt := ⟨fun _ h => absurd h List.not_mem_nil, fun _ h => absurd h List.not_mem_nil, fun _ h => absurd h List.not_mem_nil, fun _ h => absurd h List.not_mem_nil, List.forall_mem_cons.mpr ⟨Or.inr (Or.inr (Or.inr (Or.inr ⟨by decide, fun M1 h1 => by have h2 : M1 = tm_X6_blocksAt := (Option.some.inj (h1.symm.trans tn_X6_blocksAt)); subst h2; exact Or.inl tj_X6_106⟩))), List.forall_mem_cons.mpr ⟨Or.inr (Or.inr (Or.inr (Or.inr ⟨by decide, fun M1 h1 => by have h2 : M1 = tm_X6_blockAt := (Option.some.inj (h1.symm.trans tn_X6_blockAt)); subst h2; exact Or.inl tj_X6_109⟩))), List.forall_mem_cons.mpr ⟨Or.inr (Or.inr (Or.inr (Or.inr ⟨by decide, fun M1 h1 => by have h2 : M1 = tm_X6_isBlock := (Option.some.inj (h1.symm.trans tn_X6_isBlock)); subst h2; exact Or.inl tj_X6_113⟩))), fun _ h => absurd h List.not_mem_nil⟩⟩⟩⟩
set_option maxRecDepth 100000 in
theorem tw_X6_missingAt_code : Jvm.Cond.code yX6_missingAt cX6_missingAt 4 (some .int) ∈ tb_GT := tb_mem 761 (rfl) rfl
theorem tw_X6_missingAt_inst : Jvm.Cond.instanceMethod yX6_missingAt ∈ tb_GT := tb_mem 760 (by decide +kernel) rfl
theorem tw_X6_missingAt_sel : Jvm.Cond.selects RX6 yX6_missingAt yX6_missingAt ∈ tb_GT := tb_mem 38 (by decide +kernel) rfl
theorem tY_X6_missingAt : mx_okY tb_cl tb_GT tm_X6_missingAt := ⟨by decide +kernel, rfl, tw_X6_missingAt_code, ti_X6, by decide +kernel, by decide +kernel, by decide +kernel, by decide, fun h => absurd h (by decide), fun _ => ⟨tw_X6_missingAt_inst, tw_X6_missingAt_sel, ⟨(RX6, TX6, 27), rfl, rfl⟩⟩, fun h => absurd h (by decide)⟩
theorem tL_X6_sync : mx_okL tb_cl tb_GT tb_NW tb_MT tm_X6_sync := ⟨List.forall_mem_cons.mpr ⟨⟨(RX6, TX6, 27), rfl, by decide, tf_X6_70⟩, List.forall_mem_cons.mpr ⟨⟨(RX6, TX6, 27), rfl, by decide, tf_X6_17⟩, List.forall_mem_cons.mpr ⟨⟨(RX6, TX6, 27), rfl, by decide, tf_X6_153⟩, List.forall_mem_cons.mpr ⟨⟨(RX6, TX6, 27), rfl, by decide, tf_X6_93⟩, fun _ h => absurd h List.not_mem_nil⟩⟩⟩⟩, fun _ h => absurd h List.not_mem_nil, fun _ h => absurd h List.not_mem_nil, fun _ h => absurd h List.not_mem_nil, List.forall_mem_cons.mpr ⟨Or.inr (Or.inr (Or.inr (Or.inr ⟨by decide, fun M1 h1 => by have h2 : M1 = tm_X6_head := (Option.some.inj (h1.symm.trans tn_X6_head)); subst h2; exact Or.inl tj_X6_156⟩))), List.forall_mem_cons.mpr ⟨Or.inr (Or.inr (Or.inr (Or.inr ⟨by decide, fun M1 h1 => by have h2 : M1 = tm_X6_write := (Option.some.inj (h1.symm.trans tn_X6_write)); subst h2; exact Or.inl tj_X6_96⟩))), fun _ h => absurd h List.not_mem_nil⟩⟩⟩
set_option maxRecDepth 100000 in
theorem tw_X6_sync_code : Jvm.Cond.code yX6_sync cX6_sync 1 (some .int) ∈ tb_GT := tb_mem 794 (rfl) rfl
theorem tw_X6_sync_inst : Jvm.Cond.instanceMethod yX6_sync ∈ tb_GT := tb_mem 792 (by decide +kernel) rfl
theorem tw_X6_sync_sel : Jvm.Cond.selects RX6 yX6_sync yX6_sync ∈ tb_GT := tb_mem 793 (by decide +kernel) rfl
theorem tY_X6_sync : mx_okY tb_cl tb_GT tm_X6_sync := ⟨by decide +kernel, rfl, tw_X6_sync_code, ti_X6, by decide +kernel, by decide +kernel, by decide +kernel, by decide, fun h => absurd h (by decide), fun _ => ⟨tw_X6_sync_inst, tw_X6_sync_sel, ⟨(RX6, TX6, 27), rfl, rfl⟩⟩, fun h => absurd h (by decide)⟩
theorem tj_X5_128 : Jvm.Cond.methodLink RX5 128 yX5_tearHead ∈ tb_GT := tb_mem 380 (by decide +kernel) rfl
theorem tj_X5_131 : Jvm.Cond.methodLink RX5 131 yX3_undoBehind ∈ tb_GT := tb_mem 384 (by decide +kernel) rfl
theorem tL_X5_cut : mx_okL tb_cl tb_GT tb_NW tb_MT tm_X5_cut := ⟨List.forall_mem_cons.mpr ⟨⟨(RX5, TX5, 14), rfl, by decide, tf_X5_21⟩, List.forall_mem_cons.mpr ⟨⟨(RX5, TX5, 14), rfl, by decide, tf_X5_46⟩, List.forall_mem_cons.mpr ⟨⟨(RX5, TX5, 14), rfl, by decide, tf_X5_12⟩, List.forall_mem_cons.mpr ⟨⟨(RX5, TX5, 14), rfl, by decide, tf_X5_54⟩, fun _ h => absurd h List.not_mem_nil⟩⟩⟩⟩, fun _ h => absurd h List.not_mem_nil, fun _ h => absurd h List.not_mem_nil, fun _ h => absurd h List.not_mem_nil, List.forall_mem_cons.mpr ⟨Or.inr (Or.inr (Or.inr (Or.inr ⟨by decide, fun M1 h1 => by have h2 : M1 = tm_X3_size := (Option.some.inj (h1.symm.trans tn_X3_size)); subst h2; exact Or.inl tj_X5_125⟩))), List.forall_mem_cons.mpr ⟨Or.inr (Or.inr (Or.inr (Or.inr ⟨by decide, fun M1 h1 => by have h2 : M1 = tm_X5_tearHead := (Option.some.inj (h1.symm.trans tn_X5_tearHead)); subst h2; exact Or.inl tj_X5_128⟩))), List.forall_mem_cons.mpr ⟨Or.inr (Or.inr (Or.inr (Or.inr ⟨by decide, fun M1 h1 => by have h2 : M1 = tm_X3_undoBehind := (Option.some.inj (h1.symm.trans tn_X3_undoBehind)); subst h2; exact Or.inl tj_X5_131⟩))), fun _ h => absurd h List.not_mem_nil⟩⟩⟩⟩
set_option maxRecDepth 100000 in
theorem tw_X5_cut_code : Jvm.Cond.code yX5_cut cX5_cut 3 (some .int) ∈ tb_GT := tb_mem 375 (rfl) rfl
theorem tw_X5_cut_inst : Jvm.Cond.instanceMethod yX5_cut ∈ tb_GT := tb_mem 373 (by decide +kernel) rfl
theorem tw_X5_cut_sel : Jvm.Cond.selects RX5 yX5_cut yX5_cut ∈ tb_GT := tb_mem 374 (by decide +kernel) rfl
theorem tY_X5_cut : mx_okY tb_cl tb_GT tm_X5_cut := ⟨by decide +kernel, rfl, tw_X5_cut_code, ti_X5, by decide +kernel, by decide +kernel, by decide +kernel, by decide, fun h => absurd h (by decide), fun _ => ⟨tw_X5_cut_inst, tw_X5_cut_sel, ⟨(RX5, TX5, 14), rfl, rfl⟩⟩, fun h => absurd h (by decide)⟩
theorem tj_X5_102 : Jvm.Cond.methodLink RX5 102 yX5_countMissing ∈ tb_GT := tb_mem 334 (by decide +kernel) rfl
theorem tL_X5_isHurt : mx_okL tb_cl tb_GT tb_NW tb_MT tm_X5_isHurt := ⟨fun _ h => absurd h List.not_mem_nil, fun _ h => absurd h List.not_mem_nil, fun _ h => absurd h List.not_mem_nil, fun _ h => absurd h List.not_mem_nil, List.forall_mem_cons.mpr ⟨Or.inr (Or.inr (Or.inr (Or.inr ⟨by decide, fun M1 h1 => by have h2 : M1 = tm_X5_findRow := (Option.some.inj (h1.symm.trans tn_X5_findRow)); subst h2; exact Or.inl tj_X5_99⟩))), List.forall_mem_cons.mpr ⟨Or.inr (Or.inr (Or.inr (Or.inr ⟨by decide, fun M1 h1 => by have h2 : M1 = tm_X5_countMissing := (Option.some.inj (h1.symm.trans tn_X5_countMissing)); subst h2; exact Or.inl tj_X5_102⟩))), fun _ h => absurd h List.not_mem_nil⟩⟩⟩
set_option maxRecDepth 100000 in
theorem tw_X5_isHurt_code : Jvm.Cond.code yX5_isHurt cX5_isHurt 3 (some .boolean) ∈ tb_GT := tb_mem 518 (rfl) rfl
theorem tw_X5_isHurt_inst : Jvm.Cond.instanceMethod yX5_isHurt ∈ tb_GT := tb_mem 517 (by decide +kernel) rfl
theorem tw_X5_isHurt_sel : Jvm.Cond.selects RX5 yX5_isHurt yX5_isHurt ∈ tb_GT := tb_mem 28 (by decide +kernel) rfl
theorem tY_X5_isHurt : mx_okY tb_cl tb_GT tm_X5_isHurt := ⟨by decide +kernel, rfl, tw_X5_isHurt_code, ti_X5, by decide +kernel, by decide +kernel, by decide +kernel, by decide, fun h => absurd h (by decide), fun _ => ⟨tw_X5_isHurt_inst, tw_X5_isHurt_sel, ⟨(RX5, TX5, 14), rfl, rfl⟩⟩, fun h => absurd h (by decide)⟩
theorem tj_X5_225 : Jvm.Cond.methodLink RX5 225 yX5_findDraftedBlock ∈ tb_GT := tb_mem 248 (by decide +kernel) rfl
theorem tj_X5_92 : Jvm.Cond.methodLink RX5 92 yX5_writeNext ∈ tb_GT := tb_mem 280 (by decide +kernel) rfl
theorem tL_X5_placeOpenBlock : mx_okL tb_cl tb_GT tb_NW tb_MT tm_X5_placeOpenBlock := ⟨List.forall_mem_cons.mpr ⟨⟨(RX5, TX5, 14), rfl, by decide, tf_X5_28⟩, List.forall_mem_cons.mpr ⟨⟨(RX5, TX5, 14), rfl, by decide, tf_X5_39⟩, List.forall_mem_cons.mpr ⟨⟨(RX5, TX5, 14), rfl, by decide, tf_X5_199⟩, fun _ h => absurd h List.not_mem_nil⟩⟩⟩, fun _ h => absurd h List.not_mem_nil, fun _ h => absurd h List.not_mem_nil, fun _ h => absurd h List.not_mem_nil, List.forall_mem_cons.mpr ⟨Or.inr (Or.inr (Or.inr (Or.inr ⟨by decide, fun M1 h1 => by have h2 : M1 = tm_X0_begin := (Option.some.inj (h1.symm.trans tn_X0_begin)); subst h2; exact Or.inl tj_X5_84⟩))), List.forall_mem_cons.mpr ⟨Or.inr (Or.inr (Or.inr (Or.inr ⟨by decide, fun M1 h1 => by have h2 : M1 = tm_X0_setContent := (Option.some.inj (h1.symm.trans tn_X0_setContent)); subst h2; exact Or.inl tj_X5_88⟩))), List.forall_mem_cons.mpr ⟨Or.inr (Or.inr (Or.inr (Or.inr ⟨by decide, fun M1 h1 => by have h2 : M1 = tm_X5_findDraftedBlock := (Option.some.inj (h1.symm.trans tn_X5_findDraftedBlock)); subst h2; exact Or.inl tj_X5_225⟩))), List.forall_mem_cons.mpr ⟨Or.inr (Or.inr (Or.inr (Or.inr ⟨by decide, fun M1 h1 => by have h2 : M1 = tm_X5_writeNext := (Option.some.inj (h1.symm.trans tn_X5_writeNext)); subst h2; exact Or.inl tj_X5_92⟩))), fun _ h => absurd h List.not_mem_nil⟩⟩⟩⟩⟩
set_option maxRecDepth 100000 in
theorem tw_X5_placeOpenBlock_code : Jvm.Cond.code yX5_placeOpenBlock cX5_placeOpenBlock 4 (some .int) ∈ tb_GT := tb_mem 238 (rfl) rfl
theorem tw_X5_placeOpenBlock_inst : Jvm.Cond.instanceMethod yX5_placeOpenBlock ∈ tb_GT := tb_mem 237 (by decide +kernel) rfl
theorem tw_X5_placeOpenBlock_sel : Jvm.Cond.selects RX5 yX5_placeOpenBlock yX5_placeOpenBlock ∈ tb_GT := tb_mem 2 (by decide +kernel) rfl
theorem tY_X5_placeOpenBlock : mx_okY tb_cl tb_GT tm_X5_placeOpenBlock := ⟨by decide +kernel, rfl, tw_X5_placeOpenBlock_code, ti_X5, by decide +kernel, by decide +kernel, by decide +kernel, by decide, fun h => absurd h (by decide), fun _ => ⟨tw_X5_placeOpenBlock_inst, tw_X5_placeOpenBlock_sel, ⟨(RX5, TX5, 14), rfl, rfl⟩⟩, fun h => absurd h (by decide)⟩
theorem tj_X5_244 : Jvm.Cond.methodLink RX5 244 yX5_chooseHead ∈ tb_GT := tb_mem 404 (by decide +kernel) rfl
theorem tL_X5_readHead : mx_okL tb_cl tb_GT tb_NW tb_MT tm_X5_readHead := ⟨List.forall_mem_cons.mpr ⟨⟨(RX5, TX5, 14), rfl, by decide, tf_X5_109⟩, List.forall_mem_cons.mpr ⟨⟨(RX5, TX5, 14), rfl, by decide, tf_X5_12⟩, List.forall_mem_cons.mpr ⟨⟨(RX5, TX5, 14), rfl, by decide, tf_X5_50⟩, List.forall_mem_cons.mpr ⟨⟨(RX5, TX5, 14), rfl, by decide, tf_X5_65⟩, fun _ h => absurd h List.not_mem_nil⟩⟩⟩⟩, fun _ h => absurd h List.not_mem_nil, fun _ h => absurd h List.not_mem_nil, fun _ h => absurd h List.not_mem_nil, List.forall_mem_cons.mpr ⟨Or.inr (Or.inr (Or.inr (Or.inr ⟨by decide, fun M1 h1 => by have h2 : M1 = tm_X5_chooseHead := (Option.some.inj (h1.symm.trans tn_X5_chooseHead)); subst h2; exact Or.inl tj_X5_244⟩))), List.forall_mem_cons.mpr ⟨Or.inr (Or.inr (Or.inr (Or.inr ⟨by decide, fun M1 h1 => by have h2 : M1 = tm_X5_generationIn := (Option.some.inj (h1.symm.trans tn_X5_generationIn)); subst h2; exact Or.inl tj_X5_241⟩))), List.forall_mem_cons.mpr ⟨Or.inr (Or.inr (Or.inr (Or.inr ⟨by decide, fun M1 h1 => by have h2 : M1 = tm_X4_content := (Option.some.inj (h1.symm.trans tn_X4_content)); subst h2; exact Or.inl tj_X5_160⟩))), fun _ h => absurd h List.not_mem_nil⟩⟩⟩⟩
set_option maxRecDepth 100000 in
theorem tw_X5_readHead_code : Jvm.Cond.code yX5_readHead cX5_readHead 2 none ∈ tb_GT := tb_mem 403 (rfl) rfl
theorem tw_X5_readHead_inst : Jvm.Cond.instanceMethod yX5_readHead ∈ tb_GT := tb_mem 402 (by decide +kernel) rfl
theorem tw_X5_readHead_sel : Jvm.Cond.selects RX5 yX5_readHead yX5_readHead ∈ tb_GT := tb_mem 17 (by decide +kernel) rfl
theorem tY_X5_readHead : mx_okY tb_cl tb_GT tm_X5_readHead := ⟨by decide +kernel, rfl, tw_X5_readHead_code, ti_X5, by decide +kernel, by decide +kernel, by decide +kernel, by decide, fun h => absurd h (by decide), fun _ => ⟨tw_X5_readHead_inst, tw_X5_readHead_sel, ⟨(RX5, TX5, 14), rfl, rfl⟩⟩, fun h => absurd h (by decide)⟩
theorem tj_X5_250 : Jvm.Cond.methodLink RX5 250 yX5_collectGaps ∈ tb_GT := tb_mem 432 (by decide +kernel) rfl
theorem tj_X5_173 : Jvm.Cond.methodLink RX5 173 yX5_findSymbol ∈ tb_GT := tb_mem 449 (by decide +kernel) rfl
theorem tj_X5_253 : Jvm.Cond.methodLink RX5 253 yX2_prepare ∈ tb_GT := tb_mem 453 (by decide +kernel) rfl
theorem tj_X5_228 : Jvm.Cond.methodLink RX5 228 yX5_symbolByte ∈ tb_GT := tb_mem 350 (by decide +kernel) rfl
theorem tj_X5_257 : Jvm.Cond.methodLink RX5 257 yX2_solve ∈ tb_GT := tb_mem 465 (by decide +kernel) rfl
theorem tj_X5_261 : Jvm.Cond.methodLink RX5 261 yX5_fillGaps ∈ tb_GT := tb_mem 469 (by decide +kernel) rfl
theorem tL_X5_repairRow : mx_okL tb_cl tb_GT tb_NW tb_MT tm_X5_repairRow := ⟨List.forall_mem_cons.mpr ⟨⟨(RX5, TX5, 14), rfl, by decide, tf_X5_35⟩, List.forall_mem_cons.mpr ⟨⟨(RX5, TX5, 14), rfl, by decide, tf_X5_12⟩, fun _ h => absurd h List.not_mem_nil⟩⟩, fun _ h => absurd h List.not_mem_nil, fun _ h => absurd h List.not_mem_nil, fun _ h => absurd h List.not_mem_nil, List.forall_mem_cons.mpr ⟨Or.inr (Or.inr (Or.inr (Or.inr ⟨by decide, fun M1 h1 => by have h2 : M1 = tm_X5_findRow := (Option.some.inj (h1.symm.trans tn_X5_findRow)); subst h2; exact Or.inl tj_X5_99⟩))), List.forall_mem_cons.mpr ⟨Or.inr (Or.inr (Or.inr (Or.inr ⟨by decide, fun M1 h1 => by have h2 : M1 = tm_X5_collectGaps := (Option.some.inj (h1.symm.trans tn_X5_collectGaps)); subst h2; exact Or.inl tj_X5_250⟩))), List.forall_mem_cons.mpr ⟨Or.inr (Or.inr (Or.inr (Or.inr ⟨by decide, fun M1 h1 => by have h2 : M1 = tm_X5_findSymbol := (Option.some.inj (h1.symm.trans tn_X5_findSymbol)); subst h2; exact Or.inl tj_X5_173⟩))), List.forall_mem_cons.mpr ⟨Or.inr (Or.inr (Or.inr (Or.inr ⟨by decide, fun M1 h1 => by have h2 : M1 = tm_X2_prepare := (Option.some.inj (h1.symm.trans tn_X2_prepare)); subst h2; exact Or.inl tj_X5_253⟩))), List.forall_mem_cons.mpr ⟨Or.inr (Or.inr (Or.inr (Or.inr ⟨by decide, fun M1 h1 => by have h2 : M1 = tm_X4_content := (Option.some.inj (h1.symm.trans tn_X4_content)); subst h2; exact Or.inl tj_X5_160⟩))), List.forall_mem_cons.mpr ⟨Or.inr (Or.inr (Or.inr (Or.inr ⟨by decide, fun M1 h1 => by have h2 : M1 = tm_X5_symbolByte := (Option.some.inj (h1.symm.trans tn_X5_symbolByte)); subst h2; exact Or.inl tj_X5_228⟩))), List.forall_mem_cons.mpr ⟨Or.inr (Or.inr (Or.inr (Or.inr ⟨by decide, fun M1 h1 => by have h2 : M1 = tm_X2_solve := (Option.some.inj (h1.symm.trans tn_X2_solve)); subst h2; exact Or.inl tj_X5_257⟩))), List.forall_mem_cons.mpr ⟨Or.inr (Or.inr (Or.inr (Or.inr ⟨by decide, fun M1 h1 => by have h2 : M1 = tm_X5_fillGaps := (Option.some.inj (h1.symm.trans tn_X5_fillGaps)); subst h2; exact Or.inl tj_X5_261⟩))), fun _ h => absurd h List.not_mem_nil⟩⟩⟩⟩⟩⟩⟩⟩⟩
set_option maxRecDepth 100000 in
theorem tw_X5_repairRow_code : Jvm.Cond.code yX5_repairRow cX5_repairRow 8 none ∈ tb_GT := tb_mem 431 (rfl) rfl
theorem tw_X5_repairRow_inst : Jvm.Cond.instanceMethod yX5_repairRow ∈ tb_GT := tb_mem 430 (by decide +kernel) rfl
theorem tw_X5_repairRow_sel : Jvm.Cond.selects RX5 yX5_repairRow yX5_repairRow ∈ tb_GT := tb_mem 24 (by decide +kernel) rfl
theorem tY_X5_repairRow : mx_okY tb_cl tb_GT tm_X5_repairRow := ⟨by decide +kernel, rfl, tw_X5_repairRow_code, ti_X5, by decide +kernel, by decide +kernel, by decide +kernel, by decide, fun h => absurd h (by decide), fun _ => ⟨tw_X5_repairRow_inst, tw_X5_repairRow_sel, ⟨(RX5, TX5, 14), rfl, rfl⟩⟩, fun h => absurd h (by decide)⟩
theorem tL_X5_row : mx_okL tb_cl tb_GT tb_NW tb_MT tm_X5_row := ⟨List.forall_mem_cons.mpr ⟨⟨(RX5, TX5, 14), rfl, by decide, tf_X5_46⟩, List.forall_mem_cons.mpr ⟨⟨(RX5, TX5, 14), rfl, by decide, tf_X5_12⟩, fun _ h => absurd h List.not_mem_nil⟩⟩, fun _ h => absurd h List.not_mem_nil, fun _ h => absurd h List.not_mem_nil, fun _ h => absurd h List.not_mem_nil, List.forall_mem_cons.mpr ⟨Or.inr (Or.inr (Or.inr (Or.inr ⟨by decide, fun M1 h1 => by have h2 : M1 = tm_X5_isRowNumber := (Option.some.inj (h1.symm.trans tn_X5_isRowNumber)); subst h2; exact Or.inl tj_X5_95⟩))), List.forall_mem_cons.mpr ⟨Or.inr (Or.inr (Or.inr (Or.inr ⟨by decide, fun M1 h1 => by have h2 : M1 = tm_X5_findRow := (Option.some.inj (h1.symm.trans tn_X5_findRow)); subst h2; exact Or.inl tj_X5_99⟩))), List.forall_mem_cons.mpr ⟨Or.inr (Or.inr (Or.inr (Or.inr ⟨by decide, fun M1 h1 => by have h2 : M1 = tm_X5_blocksOfRow := (Option.some.inj (h1.symm.trans tn_X5_blocksOfRow)); subst h2; exact Or.inl tj_X5_167⟩))), List.forall_mem_cons.mpr ⟨Or.inr (Or.inr (Or.inr (Or.inr ⟨by decide, fun M1 h1 => by have h2 : M1 = tm_X4_content := (Option.some.inj (h1.symm.trans tn_X4_content)); subst h2; exact Or.inl tj_X5_160⟩))), List.forall_mem_cons.mpr ⟨Or.inr (Or.inr (Or.inr (Or.inr ⟨by decide, fun M1 h1 => by have h2 : M1 = tm_X4_cell := (Option.some.inj (h1.symm.trans tn_X4_cell)); subst h2; exact Or.inl tj_X5_170⟩))), List.forall_mem_cons.mpr ⟨Or.inr (Or.inr (Or.inr (Or.inr ⟨by decide, fun M1 h1 => by have h2 : M1 = tm_X5_lengthOfRow := (Option.some.inj (h1.symm.trans tn_X5_lengthOfRow)); subst h2; exact Or.inl tj_X5_150⟩))), List.forall_mem_cons.mpr ⟨Or.inr (Or.inr (Or.inr (Or.inr ⟨by decide, fun M1 h1 => by have h2 : M1 = tm_X5_findSymbol := (Option.some.inj (h1.symm.trans tn_X5_findSymbol)); subst h2; exact Or.inl tj_X5_173⟩))), List.forall_mem_cons.mpr ⟨Or.inr (Or.inr (Or.inr (Or.inr ⟨by decide, fun M1 h1 => by have h2 : M1 = tm_X5_countMissing := (Option.some.inj (h1.symm.trans tn_X5_countMissing)); subst h2; exact Or.inl tj_X5_102⟩))), fun _ h => absurd h List.not_mem_nil⟩⟩⟩⟩⟩⟩⟩⟩⟩
set_option maxRecDepth 100000 in
theorem tw_X5_row_code : Jvm.Cond.code yX5_row cX5_row 6 (some .int) ∈ tb_GT := tb_mem 484 (rfl) rfl
theorem tw_X5_row_inst : Jvm.Cond.instanceMethod yX5_row ∈ tb_GT := tb_mem 482 (by decide +kernel) rfl
theorem tw_X5_row_sel : Jvm.Cond.selects RX5 yX5_row yX5_row ∈ tb_GT := tb_mem 483 (by decide +kernel) rfl
theorem tY_X5_row : mx_okY tb_cl tb_GT tm_X5_row := ⟨by decide +kernel, rfl, tw_X5_row_code, ti_X5, by decide +kernel, by decide +kernel, by decide +kernel, by decide, fun h => absurd h (by decide), fun _ => ⟨tw_X5_row_inst, tw_X5_row_sel, ⟨(RX5, TX5, 14), rfl, rfl⟩⟩, fun h => absurd h (by decide)⟩
theorem tL_X5_writeSymbol : mx_okL tb_cl tb_GT tb_NW tb_MT tm_X5_writeSymbol := ⟨List.forall_mem_cons.mpr ⟨⟨(RX5, TX5, 14), rfl, by decide, tf_X5_28⟩, fun _ h => absurd h List.not_mem_nil⟩, fun _ h => absurd h List.not_mem_nil, fun _ h => absurd h List.not_mem_nil, fun _ h => absurd h List.not_mem_nil, List.forall_mem_cons.mpr ⟨Or.inr (Or.inr (Or.inr (Or.inr ⟨by decide, fun M1 h1 => by have h2 : M1 = tm_X0_begin := (Option.some.inj (h1.symm.trans tn_X0_begin)); subst h2; exact Or.inl tj_X5_84⟩))), List.forall_mem_cons.mpr ⟨Or.inr (Or.inr (Or.inr (Or.inr ⟨by decide, fun M1 h1 => by have h2 : M1 = tm_X5_symbolByte := (Option.some.inj (h1.symm.trans tn_X5_symbolByte)); subst h2; exact Or.inl tj_X5_228⟩))), List.forall_mem_cons.mpr ⟨Or.inr (Or.inr (Or.inr (Or.inr ⟨by decide, fun M1 h1 => by have h2 : M1 = tm_X0_setContent := (Option.some.inj (h1.symm.trans tn_X0_setContent)); subst h2; exact Or.inl tj_X5_88⟩))), List.forall_mem_cons.mpr ⟨Or.inr (Or.inr (Or.inr (Or.inr ⟨by decide, fun M1 h1 => by have h2 : M1 = tm_X5_writeNext := (Option.some.inj (h1.symm.trans tn_X5_writeNext)); subst h2; exact Or.inl tj_X5_92⟩))), fun _ h => absurd h List.not_mem_nil⟩⟩⟩⟩⟩
set_option maxRecDepth 100000 in
theorem tw_X5_writeSymbol_code : Jvm.Cond.code yX5_writeSymbol cX5_writeSymbol 5 (some .int) ∈ tb_GT := tb_mem 349 (rfl) rfl
theorem tw_X5_writeSymbol_inst : Jvm.Cond.instanceMethod yX5_writeSymbol ∈ tb_GT := tb_mem 348 (by decide +kernel) rfl
theorem tw_X5_writeSymbol_sel : Jvm.Cond.selects RX5 yX5_writeSymbol yX5_writeSymbol ∈ tb_GT := tb_mem 13 (by decide +kernel) rfl
theorem tY_X5_writeSymbol : mx_okY tb_cl tb_GT tm_X5_writeSymbol := ⟨by decide +kernel, rfl, tw_X5_writeSymbol_code, ti_X5, by decide +kernel, by decide +kernel, by decide +kernel, by decide, fun h => absurd h (by decide), fun _ => ⟨tw_X5_writeSymbol_inst, tw_X5_writeSymbol_sel, ⟨(RX5, TX5, 14), rfl, rfl⟩⟩, fun h => absurd h (by decide)⟩
theorem tj_X6_128 : Jvm.Cond.methodLink RX6 128 yX6_append ∈ tb_GT := tb_mem 734 (by decide +kernel) rfl
theorem tL_X6_blockFor : mx_okL tb_cl tb_GT tb_NW tb_MT tm_X6_blockFor := ⟨List.forall_mem_cons.mpr ⟨⟨(RX6, TX6, 27), rfl, by decide, tf_X6_40⟩, List.forall_mem_cons.mpr ⟨⟨(RX6, TX6, 27), rfl, by decide, tf_X6_116⟩, List.forall_mem_cons.mpr ⟨⟨(RX6, TX6, 27), rfl, by decide, tf_X6_28⟩, List.forall_mem_cons.mpr ⟨⟨(RX6, TX6, 27), rfl, by decide, tf_X6_21⟩, List.forall_mem_cons.mpr ⟨⟨(RX6, TX6, 27), rfl, by decide, tf_X6_7⟩, List.forall_mem_cons.mpr ⟨⟨(RX6, TX6, 27), rfl, by decide, tf_X6_125⟩, fun _ h => absurd h List.not_mem_nil⟩⟩⟩⟩⟩⟩, fun _ h => absurd h List.not_mem_nil, fun _ h => absurd h List.not_mem_nil, fun _ h => absurd h List.not_mem_nil, List.forall_mem_cons.mpr ⟨Or.inr (Or.inr (Or.inr (Or.inr ⟨by decide, fun M1 h1 => by have h2 : M1 = tm_X6_begin := (Option.some.inj (h1.symm.trans tn_X6_begin)); subst h2; exact Or.inl tj_X6_121⟩))), List.forall_mem_cons.mpr ⟨Or.inr (Or.inr (Or.inr (Or.inr ⟨by decide, fun M1 h1 => by have h2 : M1 = tm_X6_sortOf := (Option.some.inj (h1.symm.trans tn_X6_sortOf)); subst h2; exact Or.inl tj_X6_86⟩))), List.forall_mem_cons.mpr ⟨Or.inr (Or.inr (Or.inr (Or.inr ⟨by decide, fun M1 h1 => by have h2 : M1 = tm_X6_append := (Option.some.inj (h1.symm.trans tn_X6_append)); subst h2; exact Or.inl tj_X6_128⟩))), fun _ h => absurd h List.not_mem_nil⟩⟩⟩⟩
set_option maxRecDepth 100000 in
theorem tw_X6_blockFor_code : Jvm.Cond.code yX6_blockFor cX6_blockFor 5 (some .int) ∈ tb_GT := tb_mem 721 (rfl) rfl
theorem tw_X6_blockFor_inst : Jvm.Cond.instanceMethod yX6_blockFor ∈ tb_GT := tb_mem 720 (by decide +kernel) rfl
theorem tw_X6_blockFor_sel : Jvm.Cond.selects RX6 yX6_blockFor yX6_blockFor ∈ tb_GT := tb_mem 30 (by decide +kernel) rfl
theorem tY_X6_blockFor : mx_okY tb_cl tb_GT tm_X6_blockFor := ⟨by decide +kernel, rfl, tw_X6_blockFor_code, ti_X6, by decide +kernel, by decide +kernel, by decide +kernel, by decide, fun h => absurd h (by decide), fun _ => ⟨tw_X6_blockFor_inst, tw_X6_blockFor_sel, ⟨(RX6, TX6, 27), rfl, rfl⟩⟩, fun h => absurd h (by decide)⟩
theorem tj_X6_147 : Jvm.Cond.methodLink RX6 147 yX6_missingAt ∈ tb_GT := tb_mem 758 (by decide +kernel) rfl
theorem tL_X6_listed : mx_okL tb_cl tb_GT tb_NW tb_MT tm_X6_listed := ⟨List.forall_mem_cons.mpr ⟨⟨(RX6, TX6, 27), rfl, by decide, tf_X6_70⟩, List.forall_mem_cons.mpr ⟨⟨(RX6, TX6, 27), rfl, by decide, tf_X6_100⟩, List.forall_mem_cons.mpr ⟨⟨(RX6, TX6, 27), rfl, by decide, tf_X6_17⟩, fun _ h => absurd h List.not_mem_nil⟩⟩⟩, fun _ h => absurd h List.not_mem_nil, fun _ h => absurd h List.not_mem_nil, fun _ h => absurd h List.not_mem_nil, List.forall_mem_cons.mpr ⟨Or.inr (Or.inr (Or.inr (Or.inr ⟨by decide, fun M1 h1 => by have h2 : M1 = tm_X6_sectorOf := (Option.some.inj (h1.symm.trans tn_X6_sectorOf)); subst h2; exact Or.inl tj_X6_144⟩))), List.forall_mem_cons.mpr ⟨Or.inr (Or.inr (Or.inr (Or.inr ⟨by decide, fun M1 h1 => by have h2 : M1 = tm_X6_missingAt := (Option.some.inj (h1.symm.trans tn_X6_missingAt)); subst h2; exact Or.inl tj_X6_147⟩))), fun _ h => absurd h List.not_mem_nil⟩⟩⟩
set_option maxRecDepth 100000 in
theorem tw_X6_listed_code : Jvm.Cond.code yX6_listed cX6_listed 5 (some .int) ∈ tb_GT := tb_mem 877 (rfl) rfl
theorem tw_X6_listed_inst : Jvm.Cond.instanceMethod yX6_listed ∈ tb_GT := tb_mem 875 (by decide +kernel) rfl
theorem tw_X6_listed_sel : Jvm.Cond.selects RX6 yX6_listed yX6_listed ∈ tb_GT := tb_mem 876 (by decide +kernel) rfl
theorem tY_X6_listed : mx_okY tb_cl tb_GT tm_X6_listed := ⟨by decide +kernel, rfl, tw_X6_listed_code, ti_X6, by decide +kernel, by decide +kernel, by decide +kernel, by decide, fun h => absurd h (by decide), fun _ => ⟨tw_X6_listed_inst, tw_X6_listed_sel, ⟨(RX6, TX6, 27), rfl, rfl⟩⟩, fun h => absurd h (by decide)⟩
theorem tL_X6_protect : mx_okL tb_cl tb_GT tb_NW tb_MT tm_X6_protect := ⟨List.forall_mem_cons.mpr ⟨⟨(RX6, TX6, 27), rfl, by decide, tf_X6_70⟩, List.forall_mem_cons.mpr ⟨⟨(RX6, TX6, 27), rfl, by decide, tf_X6_17⟩, List.forall_mem_cons.mpr ⟨⟨(RX6, TX6, 27), rfl, by decide, tf_X6_67⟩, List.forall_mem_cons.mpr ⟨⟨(RX6, TX6, 27), rfl, by decide, tf_X6_21⟩, List.forall_mem_cons.mpr ⟨⟨(RX6, TX6, 27), rfl, by decide, tf_X6_25⟩, List.forall_mem_cons.mpr ⟨⟨(RX6, TX6, 27), rfl, by decide, tf_X6_40⟩, List.forall_mem_cons.mpr ⟨⟨(RX6, TX6, 27), rfl, by decide, tf_X6_7⟩, fun _ h => absurd h List.not_mem_nil⟩⟩⟩⟩⟩⟩⟩, fun _ h => absurd h List.not_mem_nil, fun _ h => absurd h List.not_mem_nil, fun _ h => absurd h List.not_mem_nil, List.forall_mem_cons.mpr ⟨Or.inr (Or.inr (Or.inr (Or.inr ⟨by decide, fun M1 h1 => by have h2 : M1 = tm_X6_isRow := (Option.some.inj (h1.symm.trans tn_X6_isRow)); subst h2; exact Or.inl tj_X6_141⟩))), List.forall_mem_cons.mpr ⟨Or.inr (Or.inr (Or.inr (Or.inr ⟨by decide, fun M1 h1 => by have h2 : M1 = tm_X6_in := (Option.some.inj (h1.symm.trans tn_X6_in)); subst h2; exact Or.inl tj_X6_73⟩))), List.forall_mem_cons.mpr ⟨Or.inr (Or.inr (Or.inr (Or.inr ⟨by decide, fun M1 h1 => by have h2 : M1 = tm_X6_sectorOf := (Option.some.inj (h1.symm.trans tn_X6_sectorOf)); subst h2; exact Or.inl tj_X6_144⟩))), List.forall_mem_cons.mpr ⟨Or.inr (Or.inr (Or.inr (Or.inr ⟨by decide, fun M1 h1 => by have h2 : M1 = tm_X6_missingAt := (Option.some.inj (h1.symm.trans tn_X6_missingAt)); subst h2; exact Or.inl tj_X6_147⟩))), List.forall_mem_cons.mpr ⟨Or.inr (Or.inr (Or.inr (Or.inr ⟨by decide, fun M1 h1 => by have h2 : M1 = tm_X6_begin := (Option.some.inj (h1.symm.trans tn_X6_begin)); subst h2; exact Or.inl tj_X6_121⟩))), List.forall_mem_cons.mpr ⟨Or.inr (Or.inr (Or.inr (Or.inr ⟨by decide, fun M1 h1 => by have h2 : M1 = tm_X6_blocksAt := (Option.some.inj (h1.symm.trans tn_X6_blocksAt)); subst h2; exact Or.inl tj_X6_106⟩))), List.forall_mem_cons.mpr ⟨Or.inr (Or.inr (Or.inr (Or.inr ⟨by decide, fun M1 h1 => by have h2 : M1 = tm_X6_blockAt := (Option.some.inj (h1.symm.trans tn_X6_blockAt)); subst h2; exact Or.inl tj_X6_109⟩))), List.forall_mem_cons.mpr ⟨Or.inr (Or.inr (Or.inr (Or.inr ⟨by decide, fun M1 h1 => by have h2 : M1 = tm_X6_weight := (Option.some.inj (h1.symm.trans tn_X6_weight)); subst h2; exact Or.inl tj_X6_150⟩))), List.forall_mem_cons.mpr ⟨Or.inr (Or.inr (Or.inr (Or.inr ⟨by decide, fun M1 h1 => by have h2 : M1 = tm_X6_product := (Option.some.inj (h1.symm.trans tn_X6_product)); subst h2; exact Or.inl tj_X6_138⟩))), List.forall_mem_cons.mpr ⟨Or.inr (Or.inr (Or.inr (Or.inr ⟨by decide, fun M1 h1 => by have h2 : M1 = tm_X6_append := (Option.some.inj (h1.symm.trans tn_X6_append)); subst h2; exact Or.inl tj_X6_128⟩))), fun _ h => absurd h List.not_mem_nil⟩⟩⟩⟩⟩⟩⟩⟩⟩⟩⟩
set_option maxRecDepth 100000 in
theorem tw_X6_protect_code : Jvm.Cond.code yX6_protect cX6_protect 9 (some .int) ∈ tb_GT := tb_mem 749 (rfl) rfl
theorem tw_X6_protect_inst : Jvm.Cond.instanceMethod yX6_protect ∈ tb_GT := tb_mem 747 (by decide +kernel) rfl
theorem tw_X6_protect_sel : Jvm.Cond.selects RX6 yX6_protect yX6_protect ∈ tb_GT := tb_mem 748 (by decide +kernel) rfl
theorem tY_X6_protect : mx_okY tb_cl tb_GT tm_X6_protect := ⟨by decide +kernel, rfl, tw_X6_protect_code, ti_X6, by decide +kernel, by decide +kernel, by decide +kernel, by decide, fun h => absurd h (by decide), fun _ => ⟨tw_X6_protect_inst, tw_X6_protect_sel, ⟨(RX6, TX6, 27), rfl, rfl⟩⟩, fun h => absurd h (by decide)⟩
theorem tj_X6_178 : Jvm.Cond.methodLink RX6 178 yX6_findUnknown ∈ tb_GT := tb_mem 819 (by decide +kernel) rfl
theorem tj_X6_181 : Jvm.Cond.methodLink RX6 181 yX6_symbolOf ∈ tb_GT := tb_mem 823 (by decide +kernel) rfl
theorem tj_X6_184 : Jvm.Cond.methodLink RX6 184 yX6_findRest ∈ tb_GT := tb_mem 827 (by decide +kernel) rfl
theorem tj_X6_188 : Jvm.Cond.methodLink RX6 188 yX6_isOne ∈ tb_GT := tb_mem 831 (by decide +kernel) rfl
theorem tj_X6_192 : Jvm.Cond.methodLink RX6 192 yX6_isTwo ∈ tb_GT := tb_mem 838 (by decide +kernel) rfl
theorem tj_X6_196 : Jvm.Cond.methodLink RX6 196 yX6_fill ∈ tb_GT := tb_mem 842 (by decide +kernel) rfl
theorem tL_X6_repairs : mx_okL tb_cl tb_GT tb_NW tb_MT tm_X6_repairs := ⟨List.forall_mem_cons.mpr ⟨⟨(RX6, TX6, 27), rfl, by decide, tf_X6_172⟩, List.forall_mem_cons.mpr ⟨⟨(RX6, TX6, 27), rfl, by decide, tf_X6_55⟩, List.forall_mem_cons.mpr ⟨⟨(RX6, TX6, 27), rfl, by decide, tf_X6_58⟩, List.forall_mem_cons.mpr ⟨⟨(RX6, TX6, 27), rfl, by decide, tf_X6_46⟩, List.forall_mem_cons.mpr ⟨⟨(RX6, TX6, 27), rfl, by decide, tf_X6_61⟩, List.forall_mem_cons.mpr ⟨⟨(RX6, TX6, 27), rfl, by decide, tf_X6_64⟩, fun _ h => absurd h List.not_mem_nil⟩⟩⟩⟩⟩⟩, fun _ h => absurd h List.not_mem_nil, fun _ h => absurd h List.not_mem_nil, fun _ h => absurd h List.not_mem_nil, List.forall_mem_cons.mpr ⟨Or.inr (Or.inr (Or.inr (Or.inr ⟨by decide, fun M1 h1 => by have h2 : M1 = tm_X6_findUnknown := (Option.some.inj (h1.symm.trans tn_X6_findUnknown)); subst h2; exact Or.inl tj_X6_178⟩))), List.forall_mem_cons.mpr ⟨Or.inr (Or.inr (Or.inr (Or.inr ⟨by decide, fun M1 h1 => by have h2 : M1 = tm_X6_symbolOf := (Option.some.inj (h1.symm.trans tn_X6_symbolOf)); subst h2; exact Or.inl tj_X6_181⟩))), List.forall_mem_cons.mpr ⟨Or.inr (Or.inr (Or.inr (Or.inr ⟨by decide, fun M1 h1 => by have h2 : M1 = tm_X6_findRest := (Option.some.inj (h1.symm.trans tn_X6_findRest)); subst h2; exact Or.inl tj_X6_184⟩))), List.forall_mem_cons.mpr ⟨Or.inr (Or.inr (Or.inr (Or.inr ⟨by decide, fun M1 h1 => by have h2 : M1 = tm_X6_isOne := (Option.some.inj (h1.symm.trans tn_X6_isOne)); subst h2; exact Or.inl tj_X6_188⟩))), List.forall_mem_cons.mpr ⟨Or.inr (Or.inr (Or.inr (Or.inr ⟨by decide, fun M1 h1 => by have h2 : M1 = tm_X6_isTwo := (Option.some.inj (h1.symm.trans tn_X6_isTwo)); subst h2; exact Or.inl tj_X6_192⟩))), List.forall_mem_cons.mpr ⟨Or.inr (Or.inr (Or.inr (Or.inr ⟨by decide, fun M1 h1 => by have h2 : M1 = tm_X6_fill := (Option.some.inj (h1.symm.trans tn_X6_fill)); subst h2; exact Or.inl tj_X6_196⟩))), fun _ h => absurd h List.not_mem_nil⟩⟩⟩⟩⟩⟩⟩
set_option maxRecDepth 100000 in
theorem tw_X6_repairs_code : Jvm.Cond.code yX6_repairs cX6_repairs 6 (some .boolean) ∈ tb_GT := tb_mem 818 (rfl) rfl
theorem tw_X6_repairs_inst : Jvm.Cond.instanceMethod yX6_repairs ∈ tb_GT := tb_mem 817 (by decide +kernel) rfl
theorem tw_X6_repairs_sel : Jvm.Cond.selects RX6 yX6_repairs yX6_repairs ∈ tb_GT := tb_mem 47 (by decide +kernel) rfl
theorem tY_X6_repairs : mx_okY tb_cl tb_GT tm_X6_repairs := ⟨by decide +kernel, rfl, tw_X6_repairs_code, ti_X6, by decide +kernel, by decide +kernel, by decide +kernel, by decide, fun h => absurd h (by decide), fun _ => ⟨tw_X6_repairs_inst, tw_X6_repairs_sel, ⟨(RX6, TX6, 27), rfl, rfl⟩⟩, fun h => absurd h (by decide)⟩
theorem tL_X6_row : mx_okL tb_cl tb_GT tb_NW tb_MT tm_X6_row := ⟨List.forall_mem_cons.mpr ⟨⟨(RX6, TX6, 27), rfl, by decide, tf_X6_70⟩, List.forall_mem_cons.mpr ⟨⟨(RX6, TX6, 27), rfl, by decide, tf_X6_17⟩, List.forall_mem_cons.mpr ⟨⟨(RX6, TX6, 27), rfl, by decide, tf_X6_7⟩, fun _ h => absurd h List.not_mem_nil⟩⟩⟩, fun _ h => absurd h List.not_mem_nil, fun _ h => absurd h List.not_mem_nil, fun _ h => absurd h List.not_mem_nil, List.forall_mem_cons.mpr ⟨Or.inr (Or.inr (Or.inr (Or.inr ⟨by decide, fun M1 h1 => by have h2 : M1 = tm_X6_isRow := (Option.some.inj (h1.symm.trans tn_X6_isRow)); subst h2; exact Or.inl tj_X6_141⟩))), List.forall_mem_cons.mpr ⟨Or.inr (Or.inr (Or.inr (Or.inr ⟨by decide, fun M1 h1 => by have h2 : M1 = tm_X6_in := (Option.some.inj (h1.symm.trans tn_X6_in)); subst h2; exact Or.inl tj_X6_73⟩))), List.forall_mem_cons.mpr ⟨Or.inr (Or.inr (Or.inr (Or.inr ⟨by decide, fun M1 h1 => by have h2 : M1 = tm_X6_sectorOf := (Option.some.inj (h1.symm.trans tn_X6_sectorOf)); subst h2; exact Or.inl tj_X6_144⟩))), List.forall_mem_cons.mpr ⟨Or.inr (Or.inr (Or.inr (Or.inr ⟨by decide, fun M1 h1 => by have h2 : M1 = tm_X6_sizeAt := (Option.some.inj (h1.symm.trans tn_X6_sizeAt)); subst h2; exact Or.inl tj_X6_103⟩))), List.forall_mem_cons.mpr ⟨Or.inr (Or.inr (Or.inr (Or.inr ⟨by decide, fun M1 h1 => by have h2 : M1 = tm_X6_symbolOf := (Option.some.inj (h1.symm.trans tn_X6_symbolOf)); subst h2; exact Or.inl tj_X6_181⟩))), List.forall_mem_cons.mpr ⟨Or.inr (Or.inr (Or.inr (Or.inr ⟨by decide, fun M1 h1 => by have h2 : M1 = tm_X6_blocksAt := (Option.some.inj (h1.symm.trans tn_X6_blocksAt)); subst h2; exact Or.inl tj_X6_106⟩))), List.forall_mem_cons.mpr ⟨Or.inr (Or.inr (Or.inr (Or.inr ⟨by decide, fun M1 h1 => by have h2 : M1 = tm_X6_missingAt := (Option.some.inj (h1.symm.trans tn_X6_missingAt)); subst h2; exact Or.inl tj_X6_147⟩))), List.forall_mem_cons.mpr ⟨Or.inr (Or.inr (Or.inr (Or.inr ⟨by decide, fun M1 h1 => by have h2 : M1 = tm_X6_blockAt := (Option.some.inj (h1.symm.trans tn_X6_blockAt)); subst h2; exact Or.inl tj_X6_109⟩))), fun _ h => absurd h List.not_mem_nil⟩⟩⟩⟩⟩⟩⟩⟩⟩
set_option maxRecDepth 100000 in
theorem tw_X6_row_code : Jvm.Cond.code yX6_row cX6_row 4 (some .int) ∈ tb_GT := tb_mem 853 (rfl) rfl
theorem tw_X6_row_inst : Jvm.Cond.instanceMethod yX6_row ∈ tb_GT := tb_mem 851 (by decide +kernel) rfl
theorem tw_X6_row_sel : Jvm.Cond.selects RX6 yX6_row yX6_row ∈ tb_GT := tb_mem 852 (by decide +kernel) rfl
theorem tY_X6_row : mx_okY tb_cl tb_GT tm_X6_row := ⟨by decide +kernel, rfl, tw_X6_row_code, ti_X6, by decide +kernel, by decide +kernel, by decide +kernel, by decide, fun h => absurd h (by decide), fun _ => ⟨tw_X6_row_inst, tw_X6_row_sel, ⟨(RX6, TX6, 27), rfl, rfl⟩⟩, fun h => absurd h (by decide)⟩
theorem tj_X5_81 : Jvm.Cond.methodLink RX5 81 yX5_placeOpenBlock ∈ tb_GT := tb_mem 235 (by decide +kernel) rfl
theorem tL_X5_end : mx_okL tb_cl tb_GT tb_NW tb_MT tm_X5_end := ⟨List.forall_mem_cons.mpr ⟨⟨(RX5, TX5, 14), rfl, by decide, tf_X5_46⟩, List.forall_mem_cons.mpr ⟨⟨(RX5, TX5, 14), rfl, by decide, tf_X5_54⟩, List.forall_mem_cons.mpr ⟨⟨(RX5, TX5, 14), rfl, by decide, tf_X5_43⟩, List.forall_mem_cons.mpr ⟨⟨(RX5, TX5, 14), rfl, by decide, tf_X5_28⟩, List.forall_mem_cons.mpr ⟨⟨(RX5, TX5, 14), rfl, by decide, tf_X5_74⟩, List.forall_mem_cons.mpr ⟨⟨(RX5, TX5, 14), rfl, by decide, tf_X5_65⟩, fun _ h => absurd h List.not_mem_nil⟩⟩⟩⟩⟩⟩, fun _ h => absurd h List.not_mem_nil, fun _ h => absurd h List.not_mem_nil, fun _ h => absurd h List.not_mem_nil, List.forall_mem_cons.mpr ⟨Or.inr (Or.inr (Or.inr (Or.inr ⟨by decide, fun M1 h1 => by have h2 : M1 = tm_X5_isOpen := (Option.some.inj (h1.symm.trans tn_X5_isOpen)); subst h2; exact Or.inl tj_X5_57⟩))), List.forall_mem_cons.mpr ⟨Or.inr (Or.inr (Or.inr (Or.inr ⟨by decide, fun M1 h1 => by have h2 : M1 = tm_X5_blocksForLength := (Option.some.inj (h1.symm.trans tn_X5_blocksForLength)); subst h2; exact Or.inl tj_X5_77⟩))), List.forall_mem_cons.mpr ⟨Or.inr (Or.inr (Or.inr (Or.inr ⟨by decide, fun M1 h1 => by have h2 : M1 = tm_X5_placeOpenBlock := (Option.some.inj (h1.symm.trans tn_X5_placeOpenBlock)); subst h2; exact Or.inl tj_X5_81⟩))), List.forall_mem_cons.mpr ⟨Or.inr (Or.inr (Or.inr (Or.inr ⟨by decide, fun M1 h1 => by have h2 : M1 = tm_X0_begin := (Option.some.inj (h1.symm.trans tn_X0_begin)); subst h2; exact Or.inl tj_X5_84⟩))), List.forall_mem_cons.mpr ⟨Or.inr (Or.inr (Or.inr (Or.inr ⟨by decide, fun M1 h1 => by have h2 : M1 = tm_X0_setContent := (Option.some.inj (h1.symm.trans tn_X0_setContent)); subst h2; exact Or.inl tj_X5_88⟩))), List.forall_mem_cons.mpr ⟨Or.inr (Or.inr (Or.inr (Or.inr ⟨by decide, fun M1 h1 => by have h2 : M1 = tm_X5_writeNext := (Option.some.inj (h1.symm.trans tn_X5_writeNext)); subst h2; exact Or.inl tj_X5_92⟩))), fun _ h => absurd h List.not_mem_nil⟩⟩⟩⟩⟩⟩⟩
set_option maxRecDepth 100000 in
theorem tw_X5_end_code : Jvm.Cond.code yX5_end cX5_end 3 (some .int) ∈ tb_GT := tb_mem 230 (rfl) rfl
theorem tw_X5_end_inst : Jvm.Cond.instanceMethod yX5_end ∈ tb_GT := tb_mem 228 (by decide +kernel) rfl
theorem tw_X5_end_sel : Jvm.Cond.selects RX5 yX5_end yX5_end ∈ tb_GT := tb_mem 229 (by decide +kernel) rfl
theorem tY_X5_end : mx_okY tb_cl tb_GT tm_X5_end := ⟨by decide +kernel, rfl, tw_X5_end_code, ti_X5, by decide +kernel, by decide +kernel, by decide +kernel, by decide, fun h => absurd h (by decide), fun _ => ⟨tw_X5_end_inst, tw_X5_end_sel, ⟨(RX5, TX5, 14), rfl, rfl⟩⟩, fun h => absurd h (by decide)⟩
theorem tj_X5_196 : Jvm.Cond.methodLink RX5 196 yX5_isHurt ∈ tb_GT := tb_mem 515 (by decide +kernel) rfl
theorem tL_X5_listed : mx_okL tb_cl tb_GT tb_NW tb_MT tm_X5_listed := ⟨List.forall_mem_cons.mpr ⟨⟨(RX5, TX5, 14), rfl, by decide, tf_X5_46⟩, List.forall_mem_cons.mpr ⟨⟨(RX5, TX5, 14), rfl, by decide, tf_X5_65⟩, fun _ h => absurd h List.not_mem_nil⟩⟩, fun _ h => absurd h List.not_mem_nil, fun _ h => absurd h List.not_mem_nil, fun _ h => absurd h List.not_mem_nil, List.forall_mem_cons.mpr ⟨Or.inr (Or.inr (Or.inr (Or.inr ⟨by decide, fun M1 h1 => by have h2 : M1 = tm_X5_isHurt := (Option.some.inj (h1.symm.trans tn_X5_isHurt)); subst h2; exact Or.inl tj_X5_196⟩))), fun _ h => absurd h List.not_mem_nil⟩⟩
set_option maxRecDepth 100000 in
theorem tw_X5_listed_code : Jvm.Cond.code yX5_listed cX5_listed 4 (some .int) ∈ tb_GT := tb_mem 514 (rfl) rfl
theorem tw_X5_listed_inst : Jvm.Cond.instanceMethod yX5_listed ∈ tb_GT := tb_mem 512 (by decide +kernel) rfl
theorem tw_X5_listed_sel : Jvm.Cond.selects RX5 yX5_listed yX5_listed ∈ tb_GT := tb_mem 513 (by decide +kernel) rfl
theorem tY_X5_listed : mx_okY tb_cl tb_GT tm_X5_listed := ⟨by decide +kernel, rfl, tw_X5_listed_code, ti_X5, by decide +kernel, by decide +kernel, by decide +kernel, by decide, fun h => absurd h (by decide), fun _ => ⟨tw_X5_listed_inst, tw_X5_listed_sel, ⟨(RX5, TX5, 14), rfl, rfl⟩⟩, fun h => absurd h (by decide)⟩
theorem tj_X5_105 : Jvm.Cond.methodLink RX5 105 yX5_writeSymbol ∈ tb_GT := tb_mem 346 (by decide +kernel) rfl
theorem tL_X5_protect : mx_okL tb_cl tb_GT tb_NW tb_MT tm_X5_protect := ⟨List.forall_mem_cons.mpr ⟨⟨(RX5, TX5, 14), rfl, by decide, tf_X5_46⟩, fun _ h => absurd h List.not_mem_nil⟩, fun _ h => absurd h List.not_mem_nil, fun _ h => absurd h List.not_mem_nil, fun _ h => absurd h List.not_mem_nil, List.forall_mem_cons.mpr ⟨Or.inr (Or.inr (Or.inr (Or.inr ⟨by decide, fun M1 h1 => by have h2 : M1 = tm_X5_isRowNumber := (Option.some.inj (h1.symm.trans tn_X5_isRowNumber)); subst h2; exact Or.inl tj_X5_95⟩))), List.forall_mem_cons.mpr ⟨Or.inr (Or.inr (Or.inr (Or.inr ⟨by decide, fun M1 h1 => by have h2 : M1 = tm_X5_findRow := (Option.some.inj (h1.symm.trans tn_X5_findRow)); subst h2; exact Or.inl tj_X5_99⟩))), List.forall_mem_cons.mpr ⟨Or.inr (Or.inr (Or.inr (Or.inr ⟨by decide, fun M1 h1 => by have h2 : M1 = tm_X5_countMissing := (Option.some.inj (h1.symm.trans tn_X5_countMissing)); subst h2; exact Or.inl tj_X5_102⟩))), List.forall_mem_cons.mpr ⟨Or.inr (Or.inr (Or.inr (Or.inr ⟨by decide, fun M1 h1 => by have h2 : M1 = tm_X5_sectorsLeft := (Option.some.inj (h1.symm.trans tn_X5_sectorsLeft)); subst h2; exact Or.inl tj_X5_61⟩))), List.forall_mem_cons.mpr ⟨Or.inr (Or.inr (Or.inr (Or.inr ⟨by decide, fun M1 h1 => by have h2 : M1 = tm_X5_isOpen := (Option.some.inj (h1.symm.trans tn_X5_isOpen)); subst h2; exact Or.inl tj_X5_57⟩))), List.forall_mem_cons.mpr ⟨Or.inr (Or.inr (Or.inr (Or.inr ⟨by decide, fun M1 h1 => by have h2 : M1 = tm_X5_writeSymbol := (Option.some.inj (h1.symm.trans tn_X5_writeSymbol)); subst h2; exact Or.inl tj_X5_105⟩))), fun _ h => absurd h List.not_mem_nil⟩⟩⟩⟩⟩⟩⟩
set_option maxRecDepth 100000 in
theorem tw_X5_protect_code : Jvm.Cond.code yX5_protect cX5_protect 5 (some .int) ∈ tb_GT := tb_mem 320 (rfl) rfl
theorem tw_X5_protect_inst : Jvm.Cond.instanceMethod yX5_protect ∈ tb_GT := tb_mem 318 (by decide +kernel) rfl
theorem tw_X5_protect_sel : Jvm.Cond.selects RX5 yX5_protect yX5_protect ∈ tb_GT := tb_mem 319 (by decide +kernel) rfl
theorem tY_X5_protect : mx_okY tb_cl tb_GT tm_X5_protect := ⟨by decide +kernel, rfl, tw_X5_protect_code, ti_X5, by decide +kernel, by decide +kernel, by decide +kernel, by decide, fun h => absurd h (by decide), fun _ => ⟨tw_X5_protect_inst, tw_X5_protect_sel, ⟨(RX5, TX5, 14), rfl, rfl⟩⟩, fun h => absurd h (by decide)⟩
theorem tj_X5_247 : Jvm.Cond.methodLink RX5 247 yX5_repairRow ∈ tb_GT := tb_mem 428 (by decide +kernel) rfl
theorem tL_X5_repairAll : mx_okL tb_cl tb_GT tb_NW tb_MT tm_X5_repairAll := ⟨List.forall_mem_cons.mpr ⟨⟨(RX5, TX5, 14), rfl, by decide, tf_X5_144⟩, List.forall_mem_cons.mpr ⟨⟨(RX5, TX5, 14), rfl, by decide, tf_X5_65⟩, fun _ h => absurd h List.not_mem_nil⟩⟩, fun _ h => absurd h List.not_mem_nil, fun _ h => absurd h List.not_mem_nil, fun _ h => absurd h List.not_mem_nil, List.forall_mem_cons.mpr ⟨Or.inr (Or.inr (Or.inr (Or.inr ⟨by decide, fun M1 h1 => by have h2 : M1 = tm_X5_repairRow := (Option.some.inj (h1.symm.trans tn_X5_repairRow)); subst h2; exact Or.inl tj_X5_247⟩))), fun _ h => absurd h List.not_mem_nil⟩⟩
set_option maxRecDepth 100000 in
theorem tw_X5_repairAll_code : Jvm.Cond.code yX5_repairAll cX5_repairAll 4 none ∈ tb_GT := tb_mem 427 (rfl) rfl
theorem tw_X5_repairAll_inst : Jvm.Cond.instanceMethod yX5_repairAll ∈ tb_GT := tb_mem 426 (by decide +kernel) rfl
theorem tw_X5_repairAll_sel : Jvm.Cond.selects RX5 yX5_repairAll yX5_repairAll ∈ tb_GT := tb_mem 23 (by decide +kernel) rfl
theorem tY_X5_repairAll : mx_okY tb_cl tb_GT tm_X5_repairAll := ⟨by decide +kernel, rfl, tw_X5_repairAll_code, ti_X5, by decide +kernel, by decide +kernel, by decide +kernel, by decide, fun h => absurd h (by decide), fun _ => ⟨tw_X5_repairAll_inst, tw_X5_repairAll_sel, ⟨(RX5, TX5, 14), rfl, rfl⟩⟩, fun h => absurd h (by decide)⟩
theorem tj_X6_132 : Jvm.Cond.methodLink RX6 132 yX6_blockFor ∈ tb_GT := tb_mem 718 (by decide +kernel) rfl
theorem tL_X6_end : mx_okL tb_cl tb_GT tb_NW tb_MT tm_X6_end := ⟨List.forall_mem_cons.mpr ⟨⟨(RX6, TX6, 27), rfl, by decide, tf_X6_70⟩, List.forall_mem_cons.mpr ⟨⟨(RX6, TX6, 27), rfl, by decide, tf_X6_17⟩, List.forall_mem_cons.mpr ⟨⟨(RX6, TX6, 27), rfl, by decide, tf_X6_25⟩, List.forall_mem_cons.mpr ⟨⟨(RX6, TX6, 27), rfl, by decide, tf_X6_116⟩, List.forall_mem_cons.mpr ⟨⟨(RX6, TX6, 27), rfl, by decide, tf_X6_43⟩, List.forall_mem_cons.mpr ⟨⟨(RX6, TX6, 27), rfl, by decide, tf_X6_100⟩, List.forall_mem_cons.mpr ⟨⟨(RX6, TX6, 27), rfl, by decide, tf_X6_40⟩, fun _ h => absurd h List.not_mem_nil⟩⟩⟩⟩⟩⟩⟩, fun _ h => absurd h List.not_mem_nil, fun _ h => absurd h List.not_mem_nil, fun _ h => absurd h List.not_mem_nil, List.forall_mem_cons.mpr ⟨Or.inr (Or.inr (Or.inr (Or.inr ⟨by decide, fun M1 h1 => by have h2 : M1 = tm_X6_blockFor := (Option.some.inj (h1.symm.trans tn_X6_blockFor)); subst h2; exact Or.inl tj_X6_132⟩))), List.forall_mem_cons.mpr ⟨Or.inr (Or.inr (Or.inr (Or.inr ⟨by decide, fun M1 h1 => by have h2 : M1 = tm_X6_begin := (Option.some.inj (h1.symm.trans tn_X6_begin)); subst h2; exact Or.inl tj_X6_121⟩))), List.forall_mem_cons.mpr ⟨Or.inr (Or.inr (Or.inr (Or.inr ⟨by decide, fun M1 h1 => by have h2 : M1 = tm_X6_append := (Option.some.inj (h1.symm.trans tn_X6_append)); subst h2; exact Or.inl tj_X6_128⟩))), fun _ h => absurd h List.not_mem_nil⟩⟩⟩⟩
set_option maxRecDepth 100000 in
theorem tw_X6_end_code : Jvm.Cond.code yX6_end cX6_end 3 (some .int) ∈ tb_GT := tb_mem 717 (rfl) rfl
theorem tw_X6_end_inst : Jvm.Cond.instanceMethod yX6_end ∈ tb_GT := tb_mem 715 (by decide +kernel) rfl
theorem tw_X6_end_sel : Jvm.Cond.selects RX6 yX6_end yX6_end ∈ tb_GT := tb_mem 716 (by decide +kernel) rfl
theorem tY_X6_end : mx_okY tb_cl tb_GT tm_X6_end := ⟨by decide +kernel, rfl, tw_X6_end_code, ti_X6, by decide +kernel, by decide +kernel, by decide +kernel, by decide, fun h => absurd h (by decide), fun _ => ⟨tw_X6_end_inst, tw_X6_end_sel, ⟨(RX6, TX6, 27), rfl, rfl⟩⟩, fun h => absurd h (by decide)⟩
theorem tj_X6_159 : Jvm.Cond.methodLink RX6 159 yX6_isHead ∈ tb_GT := tb_mem 807 (by decide +kernel) rfl
theorem tj_X6_162 : Jvm.Cond.methodLink RX6 162 yX6_generationAt ∈ tb_GT := tb_mem 811 (by decide +kernel) rfl
theorem tj_X6_168 : Jvm.Cond.methodLink RX6 168 yX6_repairs ∈ tb_GT := tb_mem 815 (by decide +kernel) rfl
theorem tL_X6_start : mx_okL tb_cl tb_GT tb_NW tb_MT tm_X6_start := ⟨List.forall_mem_cons.mpr ⟨⟨(RX6, TX6, 27), rfl, by decide, tf_X6_70⟩, List.forall_mem_cons.mpr ⟨⟨(RX6, TX6, 27), rfl, by decide, tf_X6_17⟩, List.forall_mem_cons.mpr ⟨⟨(RX6, TX6, 27), rfl, by decide, tf_X6_153⟩, List.forall_mem_cons.mpr ⟨⟨(RX6, TX6, 27), rfl, by decide, tf_X6_7⟩, List.forall_mem_cons.mpr ⟨⟨(RX6, TX6, 27), rfl, by decide, tf_X6_21⟩, List.forall_mem_cons.mpr ⟨⟨(RX6, TX6, 27), rfl, by decide, tf_X6_100⟩, List.forall_mem_cons.mpr ⟨⟨(RX6, TX6, 27), rfl, by decide, tf_X6_67⟩, List.forall_mem_cons.mpr ⟨⟨(RX6, TX6, 27), rfl, by decide, tf_X6_165⟩, List.forall_mem_cons.mpr ⟨⟨(RX6, TX6, 27), rfl, by decide, tf_X6_93⟩, fun _ h => absurd h List.not_mem_nil⟩⟩⟩⟩⟩⟩⟩⟩⟩, fun _ h => absurd h List.not_mem_nil, fun _ h => absurd h List.not_mem_nil, fun _ h => absurd h List.not_mem_nil, List.forall_mem_cons.mpr ⟨Or.inr (Or.inr (Or.inr (Or.inr ⟨by decide, fun M1 h1 => by have h2 : M1 = tm_X6_isHead := (Option.some.inj (h1.symm.trans tn_X6_isHead)); subst h2; exact Or.inl tj_X6_159⟩))), List.forall_mem_cons.mpr ⟨Or.inr (Or.inr (Or.inr (Or.inr ⟨by decide, fun M1 h1 => by have h2 : M1 = tm_X6_generationAt := (Option.some.inj (h1.symm.trans tn_X6_generationAt)); subst h2; exact Or.inl tj_X6_162⟩))), List.forall_mem_cons.mpr ⟨Or.inr (Or.inr (Or.inr (Or.inr ⟨by decide, fun M1 h1 => by have h2 : M1 = tm_X6_sortOf := (Option.some.inj (h1.symm.trans tn_X6_sortOf)); subst h2; exact Or.inl tj_X6_86⟩))), List.forall_mem_cons.mpr ⟨Or.inr (Or.inr (Or.inr (Or.inr ⟨by decide, fun M1 h1 => by have h2 : M1 = tm_X6_sectorOf := (Option.some.inj (h1.symm.trans tn_X6_sectorOf)); subst h2; exact Or.inl tj_X6_144⟩))), List.forall_mem_cons.mpr ⟨Or.inr (Or.inr (Or.inr (Or.inr ⟨by decide, fun M1 h1 => by have h2 : M1 = tm_X6_repairs := (Option.some.inj (h1.symm.trans tn_X6_repairs)); subst h2; exact Or.inl tj_X6_168⟩))), fun _ h => absurd h List.not_mem_nil⟩⟩⟩⟩⟩⟩
set_option maxRecDepth 100000 in
theorem tw_X6_start_code : Jvm.Cond.code yX6_start cX6_start 7 (some .int) ∈ tb_GT := tb_mem 806 (rfl) rfl
theorem tw_X6_start_inst : Jvm.Cond.instanceMethod yX6_start ∈ tb_GT := tb_mem 804 (by decide +kernel) rfl
theorem tw_X6_start_sel : Jvm.Cond.selects RX6 yX6_start yX6_start ∈ tb_GT := tb_mem 805 (by decide +kernel) rfl
theorem tY_X6_start : mx_okY tb_cl tb_GT tm_X6_start := ⟨by decide +kernel, rfl, tw_X6_start_code, ti_X6, by decide +kernel, by decide +kernel, by decide +kernel, by decide, fun h => absurd h (by decide), fun _ => ⟨tw_X6_start_inst, tw_X6_start_sel, ⟨(RX6, TX6, 27), rfl, rfl⟩⟩, fun h => absurd h (by decide)⟩
theorem tj_X5_135 : Jvm.Cond.methodLink RX5 135 yX5_readHead ∈ tb_GT := tb_mem 400 (by decide +kernel) rfl
theorem tj_X5_138 : Jvm.Cond.methodLink RX5 138 yX5_extendLog ∈ tb_GT := tb_mem 416 (by decide +kernel) rfl
theorem tj_X5_141 : Jvm.Cond.methodLink RX5 141 yX5_countRows ∈ tb_GT := tb_mem 420 (by decide +kernel) rfl
theorem tj_X5_147 : Jvm.Cond.methodLink RX5 147 yX5_repairAll ∈ tb_GT := tb_mem 424 (by decide +kernel) rfl
theorem tL_X5_start : mx_okL tb_cl tb_GT tb_NW tb_MT tm_X5_start := ⟨List.forall_mem_cons.mpr ⟨⟨(RX5, TX5, 14), rfl, by decide, tf_X5_46⟩, List.forall_mem_cons.mpr ⟨⟨(RX5, TX5, 14), rfl, by decide, tf_X5_144⟩, List.forall_mem_cons.mpr ⟨⟨(RX5, TX5, 14), rfl, by decide, tf_X5_21⟩, List.forall_mem_cons.mpr ⟨⟨(RX5, TX5, 14), rfl, by decide, tf_X5_65⟩, fun _ h => absurd h List.not_mem_nil⟩⟩⟩⟩, fun _ h => absurd h List.not_mem_nil, fun _ h => absurd h List.not_mem_nil, fun _ h => absurd h List.not_mem_nil, List.forall_mem_cons.mpr ⟨Or.inr (Or.inr (Or.inr (Or.inr ⟨by decide, fun M1 h1 => by have h2 : M1 = tm_X5_readHead := (Option.some.inj (h1.symm.trans tn_X5_readHead)); subst h2; exact Or.inl tj_X5_135⟩))), List.forall_mem_cons.mpr ⟨Or.inr (Or.inr (Or.inr (Or.inr ⟨by decide, fun M1 h1 => by have h2 : M1 = tm_X5_extendLog := (Option.some.inj (h1.symm.trans tn_X5_extendLog)); subst h2; exact Or.inl tj_X5_138⟩))), List.forall_mem_cons.mpr ⟨Or.inr (Or.inr (Or.inr (Or.inr ⟨by decide, fun M1 h1 => by have h2 : M1 = tm_X5_countRows := (Option.some.inj (h1.symm.trans tn_X5_countRows)); subst h2; exact Or.inl tj_X5_141⟩))), List.forall_mem_cons.mpr ⟨Or.inr (Or.inr (Or.inr (Or.inr ⟨by decide, fun M1 h1 => by have h2 : M1 = tm_X5_repairAll := (Option.some.inj (h1.symm.trans tn_X5_repairAll)); subst h2; exact Or.inl tj_X5_147⟩))), List.forall_mem_cons.mpr ⟨Or.inr (Or.inr (Or.inr (Or.inr ⟨by decide, fun M1 h1 => by have h2 : M1 = tm_X3_clear := (Option.some.inj (h1.symm.trans tn_X3_clear)); subst h2; exact Or.inl tj_X5_122⟩))), fun _ h => absurd h List.not_mem_nil⟩⟩⟩⟩⟩⟩
set_option maxRecDepth 100000 in
theorem tw_X5_start_code : Jvm.Cond.code yX5_start cX5_start 1 (some .int) ∈ tb_GT := tb_mem 399 (rfl) rfl
theorem tw_X5_start_inst : Jvm.Cond.instanceMethod yX5_start ∈ tb_GT := tb_mem 397 (by decide +kernel) rfl
theorem tw_X5_start_sel : Jvm.Cond.selects RX5 yX5_start yX5_start ∈ tb_GT := tb_mem 398 (by decide +kernel) rfl
theorem tY_X5_start : mx_okY tb_cl tb_GT tm_X5_start := ⟨by decide +kernel, rfl, tw_X5_start_code, ti_X5, by decide +kernel, by decide +kernel, by decide +kernel, by decide, fun h => absurd h (by decide), fun _ => ⟨tw_X5_start_inst, tw_X5_start_sel, ⟨(RX5, TX5, 14), rfl, rfl⟩⟩, fun h => absurd h (by decide)⟩
theorem tw_X0_new : Jvm.Cond.instantiable RX0 1 ∈ tb_GT := tb_mem 127 (by decide +kernel) rfl
theorem tu_X0 : ∀ w ∈ u_ws RX0 TX0 1, w ∈ tb_GT := List.forall_mem_cons.mpr ⟨tb_mem 133 (by decide +kernel) rfl, fun _ h => absurd h List.not_mem_nil⟩
theorem tC_X0 : mx_okC tb_GT tb_ty 0 (RX0, TX0, 1) := ⟨tu_X0, tyX0_ok, nmX0, tw_X0_new, ti_X0, by decide +kernel⟩
theorem tw_X2_new : Jvm.Cond.instantiable RX2 6 ∈ tb_GT := tb_mem 137 (by decide +kernel) rfl
theorem tu_X2 : ∀ w ∈ u_ws RX2 TX2 6, w ∈ tb_GT := List.forall_mem_cons.mpr ⟨tb_mem 148 (by decide +kernel) rfl, List.forall_mem_cons.mpr ⟨tb_mem 150 (by decide +kernel) rfl, List.forall_mem_cons.mpr ⟨tb_mem 152 (by decide +kernel) rfl, List.forall_mem_cons.mpr ⟨tb_mem 154 (by decide +kernel) rfl, List.forall_mem_cons.mpr ⟨tb_mem 156 (by decide +kernel) rfl, List.forall_mem_cons.mpr ⟨tb_mem 158 (by decide +kernel) rfl, fun _ h => absurd h List.not_mem_nil⟩⟩⟩⟩⟩⟩
theorem tC_X2 : mx_okC tb_GT tb_ty 1 (RX2, TX2, 6) := ⟨tu_X2, tyX2_ok, nmX2, tw_X2_new, ti_X2, by decide +kernel⟩
theorem tw_X3_new : Jvm.Cond.instantiable RX3 4 ∈ tb_GT := tb_mem 108 (by decide +kernel) rfl
theorem tu_X3 : ∀ w ∈ u_ws RX3 TX3 4, w ∈ tb_GT := List.forall_mem_cons.mpr ⟨tb_mem 117 (by decide +kernel) rfl, List.forall_mem_cons.mpr ⟨tb_mem 119 (by decide +kernel) rfl, List.forall_mem_cons.mpr ⟨tb_mem 121 (by decide +kernel) rfl, List.forall_mem_cons.mpr ⟨tb_mem 123 (by decide +kernel) rfl, fun _ h => absurd h List.not_mem_nil⟩⟩⟩⟩
theorem tC_X3 : mx_okC tb_GT tb_ty 2 (RX3, TX3, 4) := ⟨tu_X3, tyX3_ok, nmX3, tw_X3_new, ti_X3, by decide +kernel⟩
theorem tw_X4_new : Jvm.Cond.instantiable RX4 4 ∈ tb_GT := tb_mem 81 (by decide +kernel) rfl
theorem tu_X4 : ∀ w ∈ u_ws RX4 TX4 4, w ∈ tb_GT := List.forall_mem_cons.mpr ⟨tb_mem 96 (by decide +kernel) rfl, List.forall_mem_cons.mpr ⟨tb_mem 98 (by decide +kernel) rfl, List.forall_mem_cons.mpr ⟨tb_mem 100 (by decide +kernel) rfl, List.forall_mem_cons.mpr ⟨tb_mem 102 (by decide +kernel) rfl, fun _ h => absurd h List.not_mem_nil⟩⟩⟩⟩
theorem tC_X4 : mx_okC tb_GT tb_ty 3 (RX4, TX4, 4) := ⟨tu_X4, tyX4_ok, nmX4, tw_X4_new, ti_X4, by decide +kernel⟩
theorem tw_X5_new : Jvm.Cond.instantiable RX5 14 ∈ tb_GT := tb_mem 73 (by decide +kernel) rfl
theorem tu_X5 : ∀ w ∈ u_ws RX5 TX5 14, w ∈ tb_GT := List.forall_mem_cons.mpr ⟨tb_mem 175 (by decide +kernel) rfl, List.forall_mem_cons.mpr ⟨tb_mem 177 (by decide +kernel) rfl, List.forall_mem_cons.mpr ⟨tb_mem 179 (by decide +kernel) rfl, List.forall_mem_cons.mpr ⟨tb_mem 181 (by decide +kernel) rfl, List.forall_mem_cons.mpr ⟨tb_mem 183 (by decide +kernel) rfl, List.forall_mem_cons.mpr ⟨tb_mem 185 (by decide +kernel) rfl, List.forall_mem_cons.mpr ⟨tb_mem 187 (by decide +kernel) rfl, List.forall_mem_cons.mpr ⟨tb_mem 189 (by decide +kernel) rfl, List.forall_mem_cons.mpr ⟨tb_mem 191 (by decide +kernel) rfl, List.forall_mem_cons.mpr ⟨tb_mem 193 (by decide +kernel) rfl, List.forall_mem_cons.mpr ⟨tb_mem 195 (by decide +kernel) rfl, List.forall_mem_cons.mpr ⟨tb_mem 197 (by decide +kernel) rfl, List.forall_mem_cons.mpr ⟨tb_mem 199 (by decide +kernel) rfl, List.forall_mem_cons.mpr ⟨tb_mem 201 (by decide +kernel) rfl, fun _ h => absurd h List.not_mem_nil⟩⟩⟩⟩⟩⟩⟩⟩⟩⟩⟩⟩⟩⟩
theorem tC_X5 : mx_okC tb_GT tb_ty 4 (RX5, TX5, 14) := ⟨tu_X5, tyX5_ok, nmX5, tw_X5_new, ti_X5, by decide +kernel⟩
theorem tw_X6_new : Jvm.Cond.instantiable RX6 27 ∈ tb_GT := tb_mem 615 (by decide +kernel) rfl
theorem tu_X6 : ∀ w ∈ u_ws RX6 TX6 27, w ∈ tb_GT := List.forall_mem_cons.mpr ⟨tb_mem 647 (by decide +kernel) rfl, List.forall_mem_cons.mpr ⟨tb_mem 649 (by decide +kernel) rfl, List.forall_mem_cons.mpr ⟨tb_mem 651 (by decide +kernel) rfl, List.forall_mem_cons.mpr ⟨tb_mem 653 (by decide +kernel) rfl, List.forall_mem_cons.mpr ⟨tb_mem 655 (by decide +kernel) rfl, List.forall_mem_cons.mpr ⟨tb_mem 657 (by decide +kernel) rfl, List.forall_mem_cons.mpr ⟨tb_mem 659 (by decide +kernel) rfl, List.forall_mem_cons.mpr ⟨tb_mem 661 (by decide +kernel) rfl, List.forall_mem_cons.mpr ⟨tb_mem 663 (by decide +kernel) rfl, List.forall_mem_cons.mpr ⟨tb_mem 665 (by decide +kernel) rfl, List.forall_mem_cons.mpr ⟨tb_mem 667 (by decide +kernel) rfl, List.forall_mem_cons.mpr ⟨tb_mem 669 (by decide +kernel) rfl, List.forall_mem_cons.mpr ⟨tb_mem 671 (by decide +kernel) rfl, List.forall_mem_cons.mpr ⟨tb_mem 673 (by decide +kernel) rfl, List.forall_mem_cons.mpr ⟨tb_mem 675 (by decide +kernel) rfl, List.forall_mem_cons.mpr ⟨tb_mem 677 (by decide +kernel) rfl, List.forall_mem_cons.mpr ⟨tb_mem 679 (by decide +kernel) rfl, List.forall_mem_cons.mpr ⟨tb_mem 681 (by decide +kernel) rfl, List.forall_mem_cons.mpr ⟨tb_mem 683 (by decide +kernel) rfl, List.forall_mem_cons.mpr ⟨tb_mem 685 (by decide +kernel) rfl, List.forall_mem_cons.mpr ⟨tb_mem 687 (by decide +kernel) rfl, List.forall_mem_cons.mpr ⟨tb_mem 689 (by decide +kernel) rfl, List.forall_mem_cons.mpr ⟨tb_mem 691 (by decide +kernel) rfl, List.forall_mem_cons.mpr ⟨tb_mem 693 (by decide +kernel) rfl, List.forall_mem_cons.mpr ⟨tb_mem 695 (by decide +kernel) rfl, List.forall_mem_cons.mpr ⟨tb_mem 697 (by decide +kernel) rfl, List.forall_mem_cons.mpr ⟨tb_mem 699 (by decide +kernel) rfl, fun _ h => absurd h List.not_mem_nil⟩⟩⟩⟩⟩⟩⟩⟩⟩⟩⟩⟩⟩⟩⟩⟩⟩⟩⟩⟩⟩⟩⟩⟩⟩⟩⟩
theorem tC_X6 : mx_okC tb_GT tb_ty 5 (RX6, TX6, 27) := ⟨tu_X6, tyX6_ok, nmX6, tw_X6_new, ti_X6, by decide +kernel⟩
theorem tJ_0 : Jvm.Cond.instanceMethod Lib.objectInit ∈ tb_GT := tb_mem 78 (by decide +kernel) rfl
set_option maxRecDepth 100000 in
theorem tJ_1 : Jvm.Cond.code Lib.objectInit ⟨#[0xb1]⟩ 1 none ∈ tb_GT := tb_mem 79 (rfl) rfl
theorem tJ_2 : Jvm.Cond.static Lib.Math.max.name ∈ tb_GT := tb_mem 90 (by decide +kernel) rfl
theorem tJ_3 : Jvm.Cond.static Lib.Math.min.name ∈ tb_GT := tb_mem 87 (by decide +kernel) rfl
theorem tJ_4 : Jvm.Cond.initialized "java/lang/Math" ∈ tb_GT := tb_mem 58 (by decide +kernel) rfl
set_option maxRecDepth 100000 in
theorem tJ_5 : Jvm.Cond.code Lib.Math.max.name Lib.Math.max.code 2 (some .int) ∈ tb_GT := tb_mem 91 (rfl) rfl
set_option maxRecDepth 100000 in
theorem tJ_6 : Jvm.Cond.code Lib.Math.min.name Lib.Math.min.code 2 (some .int) ∈ tb_GT := tb_mem 88 (rfl) rfl
theorem tJ_7 : Jvm.Cond.native arraycopyName ∈ tb_GT := tb_mem 307 (by decide +kernel) rfl
theorem tJ_8 : Jvm.Cond.static arraycopyName ∈ tb_GT := tb_mem 306 (by decide +kernel) rfl
theorem tJ_9 : Jvm.Cond.initialized "java/lang/System" ∈ tb_GT := tb_mem 64 (by decide +kernel) rfl
theorem tJ_10 : Jvm.Cond.arrayClass .int ∈ tb_GT := tb_mem 105 (by decide +kernel) rfl
theorem tJ_11 : Jvm.Cond.arrayClass .boolean ∈ tb_GT := tb_mem 106 (by decide +kernel) rfl
theorem tJ_12 : Jvm.Cond.arrayClass .long ∈ tb_GT := tb_mem 883 (by decide +kernel) rfl
theorem tb_J : mx_okJ tb_GT := ⟨tJ_0, tJ_1, tJ_2, tJ_3, tJ_4, tJ_5, tJ_6, tJ_7, tJ_8, tJ_9, tJ_10, tJ_11, tJ_12⟩
theorem tb_C : ∀ ci r, tb_cl[ci]? = some r → mx_okC tb_GT tb_ty ci r := by
  intro ci r h
  match ci, h with
  | 0, h => cases h; exact tC_X0
  | 1, h => cases h; exact tC_X2
  | 2, h => cases h; exact tC_X3
  | 3, h => cases h; exact tC_X4
  | 4, h => cases h; exact tC_X5
  | 5, h => cases h; exact tC_X6
  | k + 6, h => exact absurd h (by simp [tb_cl])
theorem tG_0 : ∀ M ∈ ([tm_J7_fill_53178, tm_X0_cell, tm_X0_init, tm_X0_setContent, tm_X1_twice, tm_X2_filling, tm_X2_init, tm_X2_note, tm_X2_sectorOf, tm_X2_size, tm_X3_clear, tm_X3_init, tm_X3_size, tm_X4_cell, tm_X4_count, tm_X4_countLost] : List mx_M), mx_okL tb_cl tb_GT tb_NW tb_MT M ∧ mx_okY tb_cl tb_GT M := List.forall_mem_cons.mpr ⟨⟨tL_J7_fill_53178, tY_J7_fill_53178⟩, List.forall_mem_cons.mpr ⟨⟨tL_X0_cell, tY_X0_cell⟩, List.forall_mem_cons.mpr ⟨⟨tL_X0_init, tY_X0_init⟩, List.forall_mem_cons.mpr ⟨⟨tL_X0_setContent, tY_X0_setContent⟩, List.forall_mem_cons.mpr ⟨⟨tL_X1_twice, tY_X1_twice⟩, List.forall_mem_cons.mpr ⟨⟨tL_X2_filling, tY_X2_filling⟩, List.forall_mem_cons.mpr ⟨⟨tL_X2_init, tY_X2_init⟩, List.forall_mem_cons.mpr ⟨⟨tL_X2_note, tY_X2_note⟩, List.forall_mem_cons.mpr ⟨⟨tL_X2_sectorOf, tY_X2_sectorOf⟩, List.forall_mem_cons.mpr ⟨⟨tL_X2_size, tY_X2_size⟩, List.forall_mem_cons.mpr ⟨⟨tL_X3_clear, tY_X3_clear⟩, List.forall_mem_cons.mpr ⟨⟨tL_X3_init, tY_X3_init⟩, List.forall_mem_cons.mpr ⟨⟨tL_X3_size, tY_X3_size⟩, List.forall_mem_cons.mpr ⟨⟨tL_X4_cell, tY_X4_cell⟩, List.forall_mem_cons.mpr ⟨⟨tL_X4_count, tY_X4_count⟩, List.forall_mem_cons.mpr ⟨⟨tL_X4_countLost, tY_X4_countLost⟩, fun _ h => absurd h List.not_mem_nil⟩⟩⟩⟩⟩⟩⟩⟩⟩⟩⟩⟩⟩⟩⟩⟩
theorem tG_1 : ∀ M ∈ ([tm_X4_has, tm_X4_hasCell, tm_X4_init, tm_X5_blocksForLength, tm_X5_headSector, tm_X5_isInLog, tm_X5_isOpen, tm_X5_isRowNumber, tm_X5_sumOf, tm_X6_begin, tm_X6_blockAt, tm_X6_generationAt, tm_X6_in, tm_X6_init, tm_X6_isInLog, tm_X6_sizeAt] : List mx_M), mx_okL tb_cl tb_GT tb_NW tb_MT M ∧ mx_okY tb_cl tb_GT M := List.forall_mem_cons.mpr ⟨⟨tL_X4_has, tY_X4_has⟩, List.forall_mem_cons.mpr ⟨⟨tL_X4_hasCell, tY_X4_hasCell⟩, List.forall_mem_cons.mpr ⟨⟨tL_X4_init, tY_X4_init⟩, List.forall_mem_cons.mpr ⟨⟨tL_X5_blocksForLength, tY_X5_blocksForLength⟩, List.forall_mem_cons.mpr ⟨⟨tL_X5_headSector, tY_X5_headSector⟩, List.forall_mem_cons.mpr ⟨⟨tL_X5_isInLog, tY_X5_isInLog⟩, List.forall_mem_cons.mpr ⟨⟨tL_X5_isOpen, tY_X5_isOpen⟩, List.forall_mem_cons.mpr ⟨⟨tL_X5_isRowNumber, tY_X5_isRowNumber⟩, List.forall_mem_cons.mpr ⟨⟨tL_X5_sumOf, tY_X5_sumOf⟩, List.forall_mem_cons.mpr ⟨⟨tL_X6_begin, tY_X6_begin⟩, List.forall_mem_cons.mpr ⟨⟨tL_X6_blockAt, tY_X6_blockAt⟩, List.forall_mem_cons.mpr ⟨⟨tL_X6_generationAt, tY_X6_generationAt⟩, List.forall_mem_cons.mpr ⟨⟨tL_X6_in, tY_X6_in⟩, List.forall_mem_cons.mpr ⟨⟨tL_X6_init, tY_X6_init⟩, List.forall_mem_cons.mpr ⟨⟨tL_X6_isInLog, tY_X6_isInLog⟩, List.forall_mem_cons.mpr ⟨⟨tL_X6_sizeAt, tY_X6_sizeAt⟩, fun _ h => absurd h List.not_mem_nil⟩⟩⟩⟩⟩⟩⟩⟩⟩⟩⟩⟩⟩⟩⟩⟩
theorem tG_2 : ∀ M ∈ ([tm_X6_sumOf, tm_X6_told, tm_X6_twice, tm_X6_weight, tm_X0_begin, tm_X0_seal, tm_X1_times, tm_X2_clear, tm_X4_content, tm_X4_copyTo, tm_X4_hasContentOf, tm_X4_isLost, tm_X4_judge, tm_X4_markLost, tm_X4_wholeSort, tm_X5_add] : List mx_M), mx_okL tb_cl tb_GT tb_NW tb_MT M ∧ mx_okY tb_cl tb_GT M := List.forall_mem_cons.mpr ⟨⟨tL_X6_sumOf, tY_X6_sumOf⟩, List.forall_mem_cons.mpr ⟨⟨tL_X6_told, tY_X6_told⟩, List.forall_mem_cons.mpr ⟨⟨tL_X6_twice, tY_X6_twice⟩, List.forall_mem_cons.mpr ⟨⟨tL_X6_weight, tY_X6_weight⟩, List.forall_mem_cons.mpr ⟨⟨tL_X0_begin, tY_X0_begin⟩, List.forall_mem_cons.mpr ⟨⟨tL_X0_seal, tY_X0_seal⟩, List.forall_mem_cons.mpr ⟨⟨tL_X1_times, tY_X1_times⟩, List.forall_mem_cons.mpr ⟨⟨tL_X2_clear, tY_X2_clear⟩, List.forall_mem_cons.mpr ⟨⟨tL_X4_content, tY_X4_content⟩, List.forall_mem_cons.mpr ⟨⟨tL_X4_copyTo, tY_X4_copyTo⟩, List.forall_mem_cons.mpr ⟨⟨tL_X4_hasContentOf, tY_X4_hasContentOf⟩, List.forall_mem_cons.mpr ⟨⟨tL_X4_isLost, tY_X4_isLost⟩, List.forall_mem_cons.mpr ⟨⟨tL_X4_judge, tY_X4_judge⟩, List.forall_mem_cons.mpr ⟨⟨tL_X4_markLost, tY_X4_markLost⟩, List.forall_mem_cons.mpr ⟨⟨tL_X4_wholeSort, tY_X4_wholeSort⟩, List.forall_mem_cons.mpr ⟨⟨tL_X5_add, tY_X5_add⟩, fun _ h => absurd h List.not_mem_nil⟩⟩⟩⟩⟩⟩⟩⟩⟩⟩⟩⟩⟩⟩⟩⟩
theorem tG_3 : ∀ M ∈ ([tm_X5_init, tm_X5_lengthOfRow, tm_X5_octet, tm_X5_sectorsLeft, tm_X5_told, tm_X6_add, tm_X6_blocksAt, tm_X6_head, tm_X6_isRow, tm_X6_isSector, tm_X6_open, tm_X6_product, tm_X6_seal, tm_X6_sortOf, tm_X1_inverse, tm_X2_solve] : List mx_M), mx_okL tb_cl tb_GT tb_NW tb_MT M ∧ mx_okY tb_cl tb_GT M := List.forall_mem_cons.mpr ⟨⟨tL_X5_init, tY_X5_init⟩, List.forall_mem_cons.mpr ⟨⟨tL_X5_lengthOfRow, tY_X5_lengthOfRow⟩, List.forall_mem_cons.mpr ⟨⟨tL_X5_octet, tY_X5_octet⟩, List.forall_mem_cons.mpr ⟨⟨tL_X5_sectorsLeft, tY_X5_sectorsLeft⟩, List.forall_mem_cons.mpr ⟨⟨tL_X5_told, tY_X5_told⟩, List.forall_mem_cons.mpr ⟨⟨tL_X6_add, tY_X6_add⟩, List.forall_mem_cons.mpr ⟨⟨tL_X6_blocksAt, tY_X6_blocksAt⟩, List.forall_mem_cons.mpr ⟨⟨tL_X6_head, tY_X6_head⟩, List.forall_mem_cons.mpr ⟨⟨tL_X6_isRow, tY_X6_isRow⟩, List.forall_mem_cons.mpr ⟨⟨tL_X6_isSector, tY_X6_isSector⟩, List.forall_mem_cons.mpr ⟨⟨tL_X6_open, tY_X6_open⟩, List.forall_mem_cons.mpr ⟨⟨tL_X6_product, tY_X6_product⟩, List.forall_mem_cons.mpr ⟨⟨tL_X6_seal, tY_X6_seal⟩, List.forall_mem_cons.mpr ⟨⟨tL_X6_sortOf, tY_X6_sortOf⟩, List.forall_mem_cons.mpr ⟨⟨tL_X1_inverse, tY_X1_inverse⟩, List.forall_mem_cons.mpr ⟨⟨tL_X2_solve, tY_X2_solve⟩, fun _ h => absurd h List.not_mem_nil⟩⟩⟩⟩⟩⟩⟩⟩⟩⟩⟩⟩⟩⟩⟩⟩
theorem tG_4 : ∀ M ∈ ([tm_X3_note, tm_X4_flip, tm_X4_store, tm_X4_takeBack, tm_X5_blocksOfRow, tm_X5_draftHead, tm_X5_extendLog, tm_X5_findRow, tm_X5_findSymbol, tm_X5_generationIn, tm_X5_isBlock, tm_X5_isHead, tm_X5_lose, tm_X5_open, tm_X5_whole, tm_X6_isBlock] : List mx_M), mx_okL tb_cl tb_GT tb_NW tb_MT M ∧ mx_okY tb_cl tb_GT M := List.forall_mem_cons.mpr ⟨⟨tL_X3_note, tY_X3_note⟩, List.forall_mem_cons.mpr ⟨⟨tL_X4_flip, tY_X4_flip⟩, List.forall_mem_cons.mpr ⟨⟨tL_X4_store, tY_X4_store⟩, List.forall_mem_cons.mpr ⟨⟨tL_X4_takeBack, tY_X4_takeBack⟩, List.forall_mem_cons.mpr ⟨⟨tL_X5_blocksOfRow, tY_X5_blocksOfRow⟩, List.forall_mem_cons.mpr ⟨⟨tL_X5_draftHead, tY_X5_draftHead⟩, List.forall_mem_cons.mpr ⟨⟨tL_X5_extendLog, tY_X5_extendLog⟩, List.forall_mem_cons.mpr ⟨⟨tL_X5_findRow, tY_X5_findRow⟩, List.forall_mem_cons.mpr ⟨⟨tL_X5_findSymbol, tY_X5_findSymbol⟩, List.forall_mem_cons.mpr ⟨⟨tL_X5_generationIn, tY_X5_generationIn⟩, List.forall_mem_cons.mpr ⟨⟨tL_X5_isBlock, tY_X5_isBlock⟩, List.forall_mem_cons.mpr ⟨⟨tL_X5_isHead, tY_X5_isHead⟩, List.forall_mem_cons.mpr ⟨⟨tL_X5_lose, tY_X5_lose⟩, List.forall_mem_cons.mpr ⟨⟨tL_X5_open, tY_X5_open⟩, List.forall_mem_cons.mpr ⟨⟨tL_X5_whole, tY_X5_whole⟩, List.forall_mem_cons.mpr ⟨⟨tL_X6_isBlock, tY_X6_isBlock⟩, fun _ h => absurd h List.not_mem_nil⟩⟩⟩⟩⟩⟩⟩⟩⟩⟩⟩⟩⟩⟩⟩⟩
theorem tG_5 : ∀ M ∈ ([tm_X6_isHead, tm_X6_lose, tm_X6_octet, tm_X6_poke, tm_X6_quotient, tm_X6_sectorOf, tm_X6_symbolOf, tm_X6_whole, tm_X6_write, tm_X2_prepare, tm_X3_undoBehind, tm_X5_at, tm_X5_chooseHead, tm_X5_collectGaps, tm_X5_countMissing, tm_X5_countRows] : List mx_M), mx_okL tb_cl tb_GT tb_NW tb_MT M ∧ mx_okY tb_cl tb_GT M := List.forall_mem_cons.mpr ⟨⟨tL_X6_isHead, tY_X6_isHead⟩, List.forall_mem_cons.mpr ⟨⟨tL_X6_lose, tY_X6_lose⟩, List.forall_mem_cons.mpr ⟨⟨tL_X6_octet, tY_X6_octet⟩, List.forall_mem_cons.mpr ⟨⟨tL_X6_poke, tY_X6_poke⟩, List.forall_mem_cons.mpr ⟨⟨tL_X6_quotient, tY_X6_quotient⟩, List.forall_mem_cons.mpr ⟨⟨tL_X6_sectorOf, tY_X6_sectorOf⟩, List.forall_mem_cons.mpr ⟨⟨tL_X6_symbolOf, tY_X6_symbolOf⟩, List.forall_mem_cons.mpr ⟨⟨tL_X6_whole, tY_X6_whole⟩, List.forall_mem_cons.mpr ⟨⟨tL_X6_write, tY_X6_write⟩, List.forall_mem_cons.mpr ⟨⟨tL_X2_prepare, tY_X2_prepare⟩, List.forall_mem_cons.mpr ⟨⟨tL_X3_undoBehind, tY_X3_undoBehind⟩, List.forall_mem_cons.mpr ⟨⟨tL_X5_at, tY_X5_at⟩, List.forall_mem_cons.mpr ⟨⟨tL_X5_chooseHead, tY_X5_chooseHead⟩, List.forall_mem_cons.mpr ⟨⟨tL_X5_collectGaps, tY_X5_collectGaps⟩, List.forall_mem_cons.mpr ⟨⟨tL_X5_countMissing, tY_X5_countMissing⟩, List.forall_mem_cons.mpr ⟨⟨tL_X5_countRows, tY_X5_countRows⟩, fun _ h => absurd h List.not_mem_nil⟩⟩⟩⟩⟩⟩⟩⟩⟩⟩⟩⟩⟩⟩⟩⟩
theorem tG_6 : ∀ M ∈ ([tm_X5_fillGaps, tm_X5_findDraftedBlock, tm_X5_poke, tm_X5_symbolByte, tm_X5_sync, tm_X5_tearHead, tm_X5_writeNext, tm_X6_append, tm_X6_at, tm_X6_cut, tm_X6_fill, tm_X6_findRest, tm_X6_findUnknown, tm_X6_isOne, tm_X6_isTwo, tm_X6_missingAt] : List mx_M), mx_okL tb_cl tb_GT tb_NW tb_MT M ∧ mx_okY tb_cl tb_GT M := List.forall_mem_cons.mpr ⟨⟨tL_X5_fillGaps, tY_X5_fillGaps⟩, List.forall_mem_cons.mpr ⟨⟨tL_X5_findDraftedBlock, tY_X5_findDraftedBlock⟩, List.forall_mem_cons.mpr ⟨⟨tL_X5_poke, tY_X5_poke⟩, List.forall_mem_cons.mpr ⟨⟨tL_X5_symbolByte, tY_X5_symbolByte⟩, List.forall_mem_cons.mpr ⟨⟨tL_X5_sync, tY_X5_sync⟩, List.forall_mem_cons.mpr ⟨⟨tL_X5_tearHead, tY_X5_tearHead⟩, List.forall_mem_cons.mpr ⟨⟨tL_X5_writeNext, tY_X5_writeNext⟩, List.forall_mem_cons.mpr ⟨⟨tL_X6_append, tY_X6_append⟩, List.forall_mem_cons.mpr ⟨⟨tL_X6_at, tY_X6_at⟩, List.forall_mem_cons.mpr ⟨⟨tL_X6_cut, tY_X6_cut⟩, List.forall_mem_cons.mpr ⟨⟨tL_X6_fill, tY_X6_fill⟩, List.forall_mem_cons.mpr ⟨⟨tL_X6_findRest, tY_X6_findRest⟩, List.forall_mem_cons.mpr ⟨⟨tL_X6_findUnknown, tY_X6_findUnknown⟩, List.forall_mem_cons.mpr ⟨⟨tL_X6_isOne, tY_X6_isOne⟩, List.forall_mem_cons.mpr ⟨⟨tL_X6_isTwo, tY_X6_isTwo⟩, List.forall_mem_cons.mpr ⟨⟨tL_X6_missingAt, tY_X6_missingAt⟩, fun _ h => absurd h List.not_mem_nil⟩⟩⟩⟩⟩⟩⟩⟩⟩⟩⟩⟩⟩⟩⟩⟩
theorem tG_7 : ∀ M ∈ ([tm_X6_sync, tm_X5_cut, tm_X5_isHurt, tm_X5_placeOpenBlock, tm_X5_readHead, tm_X5_repairRow, tm_X5_row, tm_X5_writeSymbol, tm_X6_blockFor, tm_X6_listed, tm_X6_protect, tm_X6_repairs, tm_X6_row, tm_X5_end, tm_X5_listed, tm_X5_protect] : List mx_M), mx_okL tb_cl tb_GT tb_NW tb_MT M ∧ mx_okY tb_cl tb_GT M := List.forall_mem_cons.mpr ⟨⟨tL_X6_sync, tY_X6_sync⟩, List.forall_mem_cons.mpr ⟨⟨tL_X5_cut, tY_X5_cut⟩, List.forall_mem_cons.mpr ⟨⟨tL_X5_isHurt, tY_X5_isHurt⟩, List.forall_mem_cons.mpr ⟨⟨tL_X5_placeOpenBlock, tY_X5_placeOpenBlock⟩, List.forall_mem_cons.mpr ⟨⟨tL_X5_readHead, tY_X5_readHead⟩, List.forall_mem_cons.mpr ⟨⟨tL_X5_repairRow, tY_X5_repairRow⟩, List.forall_mem_cons.mpr ⟨⟨tL_X5_row, tY_X5_row⟩, List.forall_mem_cons.mpr ⟨⟨tL_X5_writeSymbol, tY_X5_writeSymbol⟩, List.forall_mem_cons.mpr ⟨⟨tL_X6_blockFor, tY_X6_blockFor⟩, List.forall_mem_cons.mpr ⟨⟨tL_X6_listed, tY_X6_listed⟩, List.forall_mem_cons.mpr ⟨⟨tL_X6_protect, tY_X6_protect⟩, List.forall_mem_cons.mpr ⟨⟨tL_X6_repairs, tY_X6_repairs⟩, List.forall_mem_cons.mpr ⟨⟨tL_X6_row, tY_X6_row⟩, List.forall_mem_cons.mpr ⟨⟨tL_X5_end, tY_X5_end⟩, List.forall_mem_cons.mpr ⟨⟨tL_X5_listed, tY_X5_listed⟩, List.forall_mem_cons.mpr ⟨⟨tL_X5_protect, tY_X5_protect⟩, fun _ h => absurd h List.not_mem_nil⟩⟩⟩⟩⟩⟩⟩⟩⟩⟩⟩⟩⟩⟩⟩⟩
theorem tG_8 : ∀ M ∈ ([tm_X5_repairAll, tm_X6_end, tm_X6_start, tm_X5_start] : List mx_M), mx_okL tb_cl tb_GT tb_NW tb_MT M ∧ mx_okY tb_cl tb_GT M := List.forall_mem_cons.mpr ⟨⟨tL_X5_repairAll, tY_X5_repairAll⟩, List.forall_mem_cons.mpr ⟨⟨tL_X6_end, tY_X6_end⟩, List.forall_mem_cons.mpr ⟨⟨tL_X6_start, tY_X6_start⟩, List.forall_mem_cons.mpr ⟨⟨tL_X5_start, tY_X5_start⟩, fun _ h => absurd h List.not_mem_nil⟩⟩⟩⟩
theorem tb_R : ∀ M ∈ tb_rows, mx_okL tb_cl tb_GT tb_NW tb_MT M ∧ mx_okY tb_cl tb_GT M := by
  show ∀ M ∈ ([tm_J7_fill_53178, tm_X0_cell, tm_X0_init, tm_X0_setContent, tm_X1_twice, tm_X2_filling, tm_X2_init, tm_X2_note, tm_X2_sectorOf, tm_X2_size, tm_X3_clear, tm_X3_init, tm_X3_size, tm_X4_cell, tm_X4_count, tm_X4_countLost] : List mx_M) ++ (([tm_X4_has, tm_X4_hasCell, tm_X4_init, tm_X5_blocksForLength, tm_X5_headSector, tm_X5_isInLog, tm_X5_isOpen, tm_X5_isRowNumber, tm_X5_sumOf, tm_X6_begin, tm_X6_blockAt, tm_X6_generationAt, tm_X6_in, tm_X6_init, tm_X6_isInLog, tm_X6_sizeAt] : List mx_M) ++ (([tm_X6_sumOf, tm_X6_told, tm_X6_twice, tm_X6_weight, tm_X0_begin, tm_X0_seal, tm_X1_times, tm_X2_clear, tm_X4_content, tm_X4_copyTo, tm_X4_hasContentOf, tm_X4_isLost, tm_X4_judge, tm_X4_markLost, tm_X4_wholeSort, tm_X5_add] : List mx_M) ++ (([tm_X5_init, tm_X5_lengthOfRow, tm_X5_octet, tm_X5_sectorsLeft, tm_X5_told, tm_X6_add, tm_X6_blocksAt, tm_X6_head, tm_X6_isRow, tm_X6_isSector, tm_X6_open, tm_X6_product, tm_X6_seal, tm_X6_sortOf, tm_X1_inverse, tm_X2_solve] : List mx_M) ++ (([tm_X3_note, tm_X4_flip, tm_X4_store, tm_X4_takeBack, tm_X5_blocksOfRow, tm_X5_draftHead, tm_X5_extendLog, tm_X5_findRow, tm_X5_findSymbol, tm_X5_generationIn, tm_X5_isBlock, tm_X5_isHead, tm_X5_lose, tm_X5_open, tm_X5_whole, tm_X6_isBlock] : List mx_M) ++ (([tm_X6_isHead, tm_X6_lose, tm_X6_octet, tm_X6_poke, tm_X6_quotient, tm_X6_sectorOf, tm_X6_symbolOf, tm_X6_whole, tm_X6_write, tm_X2_prepare, tm_X3_undoBehind, tm_X5_at, tm_X5_chooseHead, tm_X5_collectGaps, tm_X5_countMissing, tm_X5_countRows] : List mx_M) ++ (([tm_X5_fillGaps, tm_X5_findDraftedBlock, tm_X5_poke, tm_X5_symbolByte, tm_X5_sync, tm_X5_tearHead, tm_X5_writeNext, tm_X6_append, tm_X6_at, tm_X6_cut, tm_X6_fill, tm_X6_findRest, tm_X6_findUnknown, tm_X6_isOne, tm_X6_isTwo, tm_X6_missingAt] : List mx_M) ++ (([tm_X6_sync, tm_X5_cut, tm_X5_isHurt, tm_X5_placeOpenBlock, tm_X5_readHead, tm_X5_repairRow, tm_X5_row, tm_X5_writeSymbol, tm_X6_blockFor, tm_X6_listed, tm_X6_protect, tm_X6_repairs, tm_X6_row, tm_X5_end, tm_X5_listed, tm_X5_protect] : List mx_M) ++ (([tm_X5_repairAll, tm_X6_end, tm_X6_start, tm_X5_start] : List mx_M))))))))), _
  exact List.forall_mem_append.mpr ⟨tG_0, List.forall_mem_append.mpr ⟨tG_1, List.forall_mem_append.mpr ⟨tG_2, List.forall_mem_append.mpr ⟨tG_3, List.forall_mem_append.mpr ⟨tG_4, List.forall_mem_append.mpr ⟨tG_5, List.forall_mem_append.mpr ⟨tG_6, List.forall_mem_append.mpr ⟨tG_7, tG_8⟩⟩⟩⟩⟩⟩⟩⟩
theorem tb_ok : mx_tab_ok0 tb_cl tb_ty tb_GT tb_NW tb_MT := by
  refine ⟨tb_C, tb_J, tb_good, tb_nest, fun n M h => ?_⟩
  match n, h with
  | k + 4, h => exact tb_R M (List.mem_of_getElem? h)
  | 0, h => cases h
  | 1, h => cases h
  | 2, h => cases h
  | 3, h => cases h
end
section
/-! rows of a walk in the small machine -/
abbrev X (mi : Nat) (st : mx_S) (r : mx_A) : Prop := mx_X tb_cl tb_ty tb_MT mi st r
/-- several steps at once -/
def xs_run (M : mx_M) : List (Nat × Instr × Nat) → mx_S → Option mx_S
  | [], st => some st
  | q :: is, st => bif st.1 == q.1 then (mx_go tb_cl tb_ty M q.2.1 q.2.2 st).bind (xs_run M is) else none
theorem xs {mi : Nat} {M : mx_M} (h1 : tb_MT mi = some M) {r : mx_A} : ∀ (is : List (Nat × Instr × Nat)) {st st' : mx_S}, (∀ q ∈ is, decode (mx_cc M) q.1 = .ok q.2) → xs_run M is st = some st' → X mi st' r → X mi st r := by
  intro is
  induction is with
  | nil => intro st st' _ h k; cases h; exact k
  | cons q is ih =>
    intro st st' hd h k
    unfold xs_run at h
    cases hq : (st.1 == q.1) with
    | false => rw [hq] at h; cases h
    | true =>
      rw [hq] at h
      simp only [cond_true] at h
      obtain ⟨st1, h2, h3⟩ := mx_bind h
      have hd1 := hd q List.mem_cons_self
      have hq : st.1 = q.1 := by simpa using hq
      rw [← hq] at hd1
      exact mx_X.go h1 hd1 h2 (ih (fun z hz => hd z (List.mem_cons_of_mem _ hz)) h3 k)
section XW
variable {mi : Nat} {M : mx_M} {r : mx_A} {pc : Nat} {L : mx_L} {S : List Value} {w : mx_W} {k : Nat × Nat} {t : Nat} {off : Int} {x y : Int32}
theorem xg {st st' : mx_S} {i : Instr} {len : Nat} (h1 : tb_MT mi = some M) (h2 : decode (mx_cc M) st.1 = .ok (i, len)) (h3 : mx_go tb_cl tb_ty M i len st = some st') (kk : X mi st' r) : X mi st r := mx_X.go h1 h2 h3 kk
theorem xif {c : Jvm.ClassFile.Cond} (h1 : tb_MT mi = some M) (h2 : decode (mx_cc M) pc = .ok (.ifCond c off, 3)) (ht : (pc : Int) + off = (t : Int)) (kt : mx_cnd c x 0 = true → X mi (t, L, S, w, k) r) (kf : mx_cnd c x 0 = false → X mi (pc + 3, L, S, w, k) r) : X mi (pc, L, .int x :: S, w, k) r := by
  have h0 : decide (0 ≤ (pc : Int) + off) = true := decide_eq_true (by omega)
  have ht2 : mx_to pc off = t := by unfold mx_to; omega
  refine mx_X.go (st' := (cond (mx_cnd c x 0) (mx_to pc off) (pc + 3), L, S, w, k)) h1 h2 ?_ ?_
  · show (bif decide (0 ≤ (pc : Int) + off) then some (cond (mx_cnd c x 0) (mx_to pc off) (pc + 3), L, S, w, k) else none) = _
    rw [h0]; rfl
  · cases hc : mx_cnd c x 0 with
    | true => rw [ht2]; exact kt hc
    | false => exact kf hc
theorem xcmp {c : Jvm.ClassFile.Cond} (h1 : tb_MT mi = some M) (h2 : decode (mx_cc M) pc = .ok (.if_icmp c off, 3)) (ht : (pc : Int) + off = (t : Int)) (kt : mx_cnd c x y = true → X mi (t, L, S, w, k) r) (kf : mx_cnd c x y = false → X mi (pc + 3, L, S, w, k) r) : X mi (pc, L, .int y :: .int x :: S, w, k) r := by
  have h0 : decide (0 ≤ (pc : Int) + off) = true := decide_eq_true (by omega)
  have ht2 : mx_to pc off = t := by unfold mx_to; omega
  refine mx_X.go (st' := (cond (mx_cnd c x y) (mx_to pc off) (pc + 3), L, S, w, k)) h1 h2 ?_ ?_
  · show (bif decide (0 ≤ (pc : Int) + off) then some (cond (mx_cnd c x y) (mx_to pc off) (pc + 3), L, S, w, k) else none) = _
    rw [h0]; rfl
  · cases hc : mx_cnd c x y with
    | true => rw [ht2]; exact kt hc
    | false => exact kf hc
/-- the branch's word as a proposition -/
theorem xc_t {c : Jvm.ClassFile.Cond} (h : mx_cnd c x y = true) : (match c with | .eq => x = y | .ne => ¬ x = y | .lt => x < y | .ge => y ≤ x | .gt => y < x | .le => x ≤ y) := by
  cases c <;> exact of_decide_eq_true h
theorem xc_f {c : Jvm.ClassFile.Cond} (h : mx_cnd c x y = false) : (match c with | .eq => ¬ x = y | .ne => x = y | .lt => ¬ x < y | .ge => ¬ y ≤ x | .gt => ¬ y < x | .le => ¬ x ≤ y) := by
  cases c
  case ne => exact Decidable.not_not.mp (of_decide_eq_false h)
  all_goals exact of_decide_eq_false h
theorem xald {i : Int32} {a N : Nat} {f : Nat → Int32} (h1 : tb_MT mi = some M) (h2 : decode (mx_cc M) pc = .ok (.iaload, 1)) (hw : w[a]? = some (.inl (0, N, .inl f))) (hi : vp_in i N) (kk : X mi (pc + 1, L, .int (f i.toNatClampNeg) :: S, w, k) r) : X mi (pc, L, .int i :: .ref a :: S, w, k) r := by
  refine mx_X.go h1 h2 ?_ kk
  show (match w[a]? with
    | some (.inl (t', N, .inl f)) => if t' = 0 ∧ ¬ (i < 0 ∨ N ≤ i.toNatClampNeg) then some (pc + 1, L, Value.int (f i.toNatClampNeg) :: S, w, k) else none
    | _ => none) = _
  rw [hw]
  exact if_pos ⟨rfl, hi⟩
theorem xzld {i : Int32} {a N : Nat} {f : Nat → Int32} (h1 : tb_MT mi = some M) (h2 : decode (mx_cc M) pc = .ok (.baload, 1)) (hw : w[a]? = some (.inl (1, N, .inl f))) (hi : vp_in i N) (kk : X mi (pc + 1, L, .int (f i.toNatClampNeg) :: S, w, k) r) : X mi (pc, L, .int i :: .ref a :: S, w, k) r := by
  refine mx_X.go h1 h2 ?_ kk
  show (match w[a]? with
    | some (.inl (t', N, .inl f)) => if t' = 1 ∧ ¬ (i < 0 ∨ N ≤ i.toNatClampNeg) then some (pc + 1, L, Value.int (f i.toNatClampNeg) :: S, w, k) else none
    | _ => none) = _
  rw [hw]
  exact if_pos ⟨rfl, hi⟩
theorem xast {i v : Int32} {a N : Nat} {f : Nat → Int32} {w' : mx_W} (h1 : tb_MT mi = some M) (h2 : decode (mx_cc M) pc = .ok (.iastore, 1)) (hw : w[a]? = some (.inl (0, N, .inl f))) (hi : vp_in i N) (hw' : w.set a (.inl (0, N, .inl (upd f i.toNatClampNeg v))) = w') (kk : X mi (pc + 1, L, S, w', k) r) : X mi (pc, L, .int v :: .int i :: .ref a :: S, w, k) r := by
  subst hw'
  refine mx_X.go h1 h2 ?_ kk
  show (match w[a]? with
    | some (.inl (t', N, .inl f)) => if t' = 0 ∧ ¬ (i < 0 ∨ N ≤ i.toNatClampNeg) then some (pc + 1, L, S, w.set a (.inl (0, N, .inl (upd f i.toNatClampNeg ((fun z => z) v)))), k) else none
    | _ => none) = _
  rw [hw]
  exact if_pos ⟨rfl, hi⟩
theorem xzst {i v : Int32} {a N : Nat} {f : Nat → Int32} {w' : mx_W} (h1 : tb_MT mi = some M) (h2 : decode (mx_cc M) pc = .ok (.bastore, 1)) (hw : w[a]? = some (.inl (1, N, .inl f))) (hi : vp_in i N) (hw' : w.set a (.inl (1, N, .inl (upd f i.toNatClampNeg (vp_nar .boolean v)))) = w') (kk : X mi (pc + 1, L, S, w', k) r) : X mi (pc, L, .int v :: .int i :: .ref a :: S, w, k) r := by
  subst hw'
  refine mx_X.go h1 h2 ?_ kk
  show (match w[a]? with
    | some (.inl (t', N, .inl f)) => if t' = 1 ∧ ¬ (i < 0 ∨ N ≤ i.toNatClampNeg) then some (pc + 1, L, S, w.set a (.inl (1, N, .inl (upd f i.toNatClampNeg (vp_nar .boolean v)))), k) else none
    | _ => none) = _
  rw [hw]
  exact if_pos ⟨rfl, hi⟩
theorem xret {v : Int32} (h1 : tb_MT mi = some M) (hr : mx_ret M = some .int) (h2 : decode (mx_cc M) pc = .ok (.ireturn, 1)) : X mi (pc, L, [.int v], w, k) (some (.int v), w, k) := mx_X.fin h1 h2 (by unfold mx_end; rw [hr])
theorem xretz {v : Int32} (h1 : tb_MT mi = some M) (hr : mx_ret M = some .boolean) (hv : v = 0 ∨ v = 1) (h2 : decode (mx_cc M) pc = .ok (.ireturn, 1)) : X mi (pc, L, [.int v], w, k) (some (.int v), w, k) := mx_X.fin h1 h2 (by unfold mx_end; rw [hr]; exact if_pos hv)
theorem xretv (h1 : tb_MT mi = some M) (hr : mx_ret M = none) (h2 : decode (mx_cc M) pc = .ok (.return_, 1)) : X mi (pc, L, [], w, k) (none, w, k) := mx_X.fin h1 h2 (by unfold mx_end; rw [hr])
/-- a call that makes nothing -/
theorem xcall {M' : mx_M} {i : Instr} {n : Nat} {av rest : List Value} {v : Option Value} {w' : mx_W} (h1 : tb_MT mi = some M) (h2 : decode (mx_cc M) pc = .ok (i, 3)) (h3 : mx_cal tb_MT M i (pc, L, S, w, k) = some (n, M', av, rest)) (h6 : Nat.ble (mx_cs av) (mx_ml M') = true) (h4 : X n (0, lv_args 0 av, [], w, 0, 0) (v, w', 0, 0)) (kk : X mi (pc + 3, L, v.toList ++ rest, w', k) r) : X mi (pc, L, S, w, k) r :=
  mx_X.call h1 h2 h3 h6 h4 (Or.inl rfl) kk
end XW
end
section
/-! rows of a walk, with numbers that count -/
section XN
variable {mi : Nat} {M : mx_M} {r : mx_A} {pc : Nat} {L : mx_L} {S : List Value} {w : mx_W} {k : Nat × Nat}
theorem xaldN {a N j : Nat} {f : Nat → Int32} (h1 : tb_MT mi = some M) (h2 : decode (mx_cc M) pc = .ok (.iaload, 1)) (hw : w[a]? = some (.inl (0, N, .inl f))) (hj : j < N) (hN : N < 2 ^ 31) (kk : X mi (pc + 1, L, .int (f j) :: S, w, k) r) : X mi (pc, L, .int (nI j) :: .ref a :: S, w, k) r := by
  refine xald h1 h2 hw (vp_in_nI hj hN) ?_
  rw [nI_clamp (by omega)]
  exact kk
theorem xzldN {a N j : Nat} {f : Nat → Int32} (h1 : tb_MT mi = some M) (h2 : decode (mx_cc M) pc = .ok (.baload, 1)) (hw : w[a]? = some (.inl (1, N, .inl f))) (hj : j < N) (hN : N < 2 ^ 31) (kk : X mi (pc + 1, L, .int (f j) :: S, w, k) r) : X mi (pc, L, .int (nI j) :: .ref a :: S, w, k) r := by
  refine xzld h1 h2 hw (vp_in_nI hj hN) ?_
  rw [nI_clamp (by omega)]
  exact kk
theorem xastN {v : Int32} {a N j : Nat} {f : Nat → Int32} {w' : mx_W} (h1 : tb_MT mi = some M) (h2 : decode (mx_cc M) pc = .ok (.iastore, 1)) (hw : w[a]? = some (.inl (0, N, .inl f))) (hj : j < N) (hN : N < 2 ^ 31) (hw' : w.set a (.inl (0, N, .inl (upd f j v))) = w') (kk : X mi (pc + 1, L, S, w', k) r) : X mi (pc, L, .int v :: .int (nI j) :: .ref a :: S, w, k) r := by
  refine xast h1 h2 hw (vp_in_nI hj hN) ?_ kk
  rw [nI_clamp (by omega)]
  exact hw'
theorem xzstN {v v' : Int32} {a N j : Nat} {f : Nat → Int32} {w' : mx_W} (h1 : tb_MT mi = some M) (h2 : decode (mx_cc M) pc = .ok (.bastore, 1)) (hw : w[a]? = some (.inl (1, N, .inl f))) (hj : j < N) (hN : N < 2 ^ 31) (hv : vp_nar .boolean v = v') (hw' : w.set a (.inl (1, N, .inl (upd f j v'))) = w') (kk : X mi (pc + 1, L, S, w', k) r) : X mi (pc, L, .int v :: .int (nI j) :: .ref a :: S, w, k) r := by
  refine xzst h1 h2 hw (vp_in_nI hj hN) ?_ kk
  rw [nI_clamp (by omega), hv]
  exact hw'
/-- a return whose answer and world are told in other words -/
theorem xretE {v v' : Int32} {w' : mx_W} (h1 : tb_MT mi = some M) (hr : mx_ret M = some .int) (h2 : decode (mx_cc M) pc = .ok (.ireturn, 1)) (hv : v = v') (hw : w = w') : X mi (pc, L, [.int v], w, k) (some (.int v'), w', k) := by
  subst hv; subst hw
  exact xret h1 hr h2
theorem xretzE {v v' : Int32} {w' : mx_W} (h1 : tb_MT mi = some M) (hr : mx_ret M = some .boolean) (hz : v = 0 ∨ v = 1) (h2 : decode (mx_cc M) pc = .ok (.ireturn, 1)) (hv : v = v') (hw : w = w') : X mi (pc, L, [.int v], w, k) (some (.int v'), w', k) := by
  subst hv; subst hw
  exact xretz h1 hr hz h2
theorem xretvE {w' : mx_W} (h1 : tb_MT mi = some M) (hr : mx_ret M = none) (h2 : decode (mx_cc M) pc = .ok (.return_, 1)) (hw : w = w') : X mi (pc, L, [], w, k) (none, w', k) := by
  subst hw
  exact xretv h1 hr h2
end XN
theorem nlt {a b : Nat} (ha : a < 2 ^ 31) (hb : b < 2 ^ 31) (h : a < b) : nI a < nI b := (nI_ltI ha hb).mpr h
theorem nle {a b : Nat} (ha : a < 2 ^ 31) (hb : b < 2 ^ 31) (h : a ≤ b) : nI a ≤ nI b := (nI_leI ha hb).mpr h
theorem nnlt {a b : Nat} (ha : a < 2 ^ 31) (hb : b < 2 ^ 31) (h : b ≤ a) : ¬ nI a < nI b := fun z => absurd ((nI_ltI ha hb).mp z) (by omega)
theorem nnle {a b : Nat} (ha : a < 2 ^ 31) (hb : b < 2 ^ 31) (h : b < a) : ¬ nI a ≤ nI b := fun z => absurd ((nI_leI ha hb).mp z) (by omega)
theorem nne {a b : Nat} (ha : a < 2 ^ 31) (hb : b < 2 ^ 31) (h : a ≠ b) : ¬ nI a = nI b := fun z => h ((nI_eq ha hb).mp z)
/-- the first i places of an array hold v -/
def fl (g : Nat → Int32) (i : Nat) (v : Int32) : Nat → Int32 := fun j => if j < i then v else g j
theorem fl_0 (g : Nat → Int32) (v : Int32) : fl g 0 v = g := by
  funext j
  simp [fl]
theorem fl_s (g : Nat → Int32) (i : Nat) (v : Int32) : upd (fl g i v) i v = fl g (i + 1) v := by
  funext j
  unfold upd fl
  by_cases h : j = i
  · subst h; simp
  · by_cases h2 : j < i
    · simp [h, h2, show j < i + 1 by omega]
    · simp [h, h2, show ¬ j < i + 1 by omega]
/-- the sum of a sector's bytes -/
def ps_st (s x : Int32) : Int32 := (((s ^^^ x) <<< (nI 7 &&& 31)) ||| ((s ^^^ x).toUInt32 >>> ((nI 25).toUInt32 &&& Int32.toUInt32 31)).toInt32) * (461845907 : Int32)
def ps (g : Nat → Int32) (b : Nat) : Nat → Int32
  | 0 => nI 0
  | i + 1 => ps_st (ps g b i) (g (b + i))
theorem neq0 {a : Nat} (h : a = 0) : nI a = 0 := by rw [h]; exact nI_0
theorem xb1 : ¬ nI 1 = 0 := by decide
theorem xb0 : nI 0 = 0 := nI_0
theorem nar0 : vp_nar .boolean (nI 0) = nI 0 := by decide
theorem nar1 : vp_nar .boolean (nI 1) = nI 1 := by decide
section XT
variable {mi : Nat} {M : mx_M} {r : mx_A} {pc : Nat} {L : mx_L} {S : List Value} {w : mx_W} {k : Nat × Nat} {t len : Nat} {d lo hi off v : Int} {offs : Array Int} {x : Int32}
theorem xtabI (h1 : tb_MT mi = some M) (h2 : decode (mx_cc M) pc = .ok (.tableswitch d lo hi offs, len)) (hx : x.toInt = v) (hlo : ¬ v < lo) (hhi : ¬ hi < v) (ho : offs[(v - lo).toNat]? = some off) (ht : (pc : Int) + off = (t : Int)) (kk : X mi (t, L, S, w, k) r) : X mi (pc, L, .int x :: S, w, k) r := by
  subst hx
  have h0 : decide (0 ≤ (pc : Int) + off) = true := decide_eq_true (by omega)
  have ht2 : mx_to pc off = t := by unfold mx_to; omega
  refine mx_X.go (st' := (t, L, S, w, k)) h1 h2 ?_ kk
  show (if x.toInt < lo ∨ hi < x.toInt then mx_goto d (pc, L, S, w, k) else (match offs[(x.toInt - lo).toNat]? with
    | some off => mx_goto off (pc, L, S, w, k)
    | none => none)) = _
  rw [if_neg (by omega), ho]
  show (bif decide (0 ≤ (pc : Int) + off) then some (mx_to pc off, L, S, w, k) else none) = _
  rw [h0, ht2]
  rfl
theorem xtabO (h1 : tb_MT mi = some M) (h2 : decode (mx_cc M) pc = .ok (.tableswitch d lo hi offs, len)) (hx : x.toInt < lo ∨ hi < x.toInt) (ht : (pc : Int) + d = (t : Int)) (kk : X mi (t, L, S, w, k) r) : X mi (pc, L, .int x :: S, w, k) r := by
  have h0 : decide (0 ≤ (pc : Int) + d) = true := decide_eq_true (by omega)
  have ht2 : mx_to pc d = t := by unfold mx_to; omega
  refine mx_X.go (st' := (t, L, S, w, k)) h1 h2 ?_ kk
  show (if x.toInt < lo ∨ hi < x.toInt then mx_goto d (pc, L, S, w, k) else (match offs[(x.toInt - lo).toNat]? with
    | some off => mx_goto off (pc, L, S, w, k)
    | none => none)) = _
  rw [if_pos hx]
  show (bif decide (0 ≤ (pc : Int) + d) then some (mx_to pc d, L, S, w, k) else none) = _
  rw [h0, ht2]
  rfl
end XT
theorem or4 {A B C D : Prop} (h : A ∨ B ∨ C ∨ D) (a : ¬ A) (b : ¬ B) (c : ¬ C) : D := ((h.resolve_left a).resolve_left b).resolve_left c
abbrev zz : Nat → Int32 := fun _ => nI 0
end
section
/-! a run with fewer locals is a run with more -/
def lk_ks (L : mx_L) : List Nat := L.map (fun q => q.1)
def lk_nr (v : Value) : Bool := match v with
  | .ref _ => false
  | _ => true
def lk_W (L' L : mx_L) : Prop := (lk_ks L').Nodup ∧ (lk_ks L).Nodup ∧ (∀ q ∈ L', q ∈ L) ∧ (∀ q ∈ L, q ∈ L' ∨ lk_nr q.2 = true)
theorem lk_fd {L : mx_L} (h : (lk_ks L).Nodup) {i : Nat} {v : Value} (hm : (i, v) ∈ L) : mx_fd L i = some v := by
  induction L with
  | nil => exact absurd hm List.not_mem_nil
  | cons q L ih =>
    unfold lk_ks at h
    rw [List.map_cons, List.nodup_cons] at h
    unfold mx_fd
    rw [List.find?_cons]
    rcases List.mem_cons.mp hm with rfl | hm
    · simp
    · have hne : q.1 ≠ i := fun e => h.1 (List.mem_map.mpr ⟨(i, v), hm, e.symm⟩)
      have hb : (q.1 == i) = false := by simpa using hne
      rw [hb]
      exact ih h.2 hm
theorem lk_W_fd {L' L : mx_L} (h : lk_W L' L) {i : Nat} {v : Value} (hf : mx_fd L' i = some v) : mx_fd L i = some v := lk_fd h.2.1 (h.2.2.1 _ (mx_fd_mem hf))
theorem lk_st1_mem {L : mx_L} {i : Nat} {v : Value} {q : Nat × Value} : q ∈ mx_st1 L i v ↔ q = (i, v) ∨ (q ∈ L ∧ q.1 ≠ i ∧ (q.1 + 1 == i && q.2.category == 2) = false) := by
  unfold mx_st1
  generalize hF : L.filter (fun q => !(q.1 + 1 == i && q.2.category == 2)) = F
  have hFm : ∀ z : Nat × Value, z ∈ F ↔ z ∈ L ∧ (z.1 + 1 == i && z.2.category == 2) = false := by
    intro z
    rw [← hF, List.mem_filter]
    cases (z.1 + 1 == i && z.2.category == 2) <;> simp
  cases hb : F.any (fun q => q.1 == i) with
  | true =>
    rw [cond_true, List.mem_map]
    constructor
    · rintro ⟨z, hz, rfl⟩
      cases h1 : (z.1 == i) with
      | true => exact Or.inl rfl
      | false =>
        refine Or.inr ⟨((hFm z).mp hz).1, ?_, ((hFm z).mp hz).2⟩
        simpa using h1
    · rintro (rfl | ⟨h1, h2, h3⟩)
      · obtain ⟨z, hz, hzi⟩ := List.any_eq_true.mp hb
        refine ⟨z, hz, ?_⟩
        rw [hzi]
        rfl
      · refine ⟨q, (hFm q).mpr ⟨h1, h3⟩, ?_⟩
        have : (q.1 == i) = false := by simpa using h2
        rw [this]
        rfl
  | false =>
    rw [cond_false, List.mem_cons]
    constructor
    · rintro (rfl | h)
      · exact Or.inl rfl
      · refine Or.inr ⟨((hFm q).mp h).1, ?_, ((hFm q).mp h).2⟩
        rw [List.any_eq_false] at hb
        simpa using hb q h
    · rintro (rfl | ⟨h1, h2, h3⟩)
      · exact Or.inl rfl
      · exact Or.inr ((hFm q).mpr ⟨h1, h3⟩)
theorem lk_st1_nd {L : mx_L} {i : Nat} {v : Value} (h : (lk_ks L).Nodup) : (lk_ks (mx_st1 L i v)).Nodup := by
  have hs : (lk_ks (L.filter (fun q => !(q.1 + 1 == i && q.2.category == 2)))).Nodup := List.Nodup.sublist (List.Sublist.map _ List.filter_sublist) h
  unfold mx_st1
  generalize L.filter (fun q => !(q.1 + 1 == i && q.2.category == 2)) = F at hs
  cases hb : F.any (fun q => q.1 == i) with
  | true =>
    rw [cond_true]
    have e : lk_ks (F.map (fun q => bif q.1 == i then (i, v) else q)) = lk_ks F := by
      unfold lk_ks
      rw [List.map_map]
      apply List.map_congr_left
      intro z _
      show (bif z.1 == i then (i, v) else z).1 = z.1
      cases hz : (z.1 == i) with
      | true => exact (by simpa using hz : z.1 = i).symm
      | false => rfl
    rw [e]
    exact hs
  | false =>
    rw [cond_false]
    unfold lk_ks at hs ⊢
    rw [List.map_cons, List.nodup_cons]
    refine ⟨fun hm => ?_, hs⟩
    obtain ⟨z, hz, e⟩ := List.mem_map.mp hm
    rw [List.any_eq_false] at hb
    exact absurd e (by simpa using hb z hz)
theorem lk_W_st {L' L : mx_L} (h : lk_W L' L) (i : Nat) (v : Value) : lk_W (mx_st1 L' i v) (mx_st1 L i v) := by
  refine ⟨lk_st1_nd h.1, lk_st1_nd h.2.1, fun q hq => ?_, fun q hq => ?_⟩
  · rcases lk_st1_mem.mp hq with e | ⟨h1, h2, h3⟩
    · exact lk_st1_mem.mpr (Or.inl e)
    · exact lk_st1_mem.mpr (Or.inr ⟨h.2.2.1 _ h1, h2, h3⟩)
  · rcases lk_st1_mem.mp hq with e | ⟨h1, h2, h3⟩
    · exact Or.inl (lk_st1_mem.mpr (Or.inl e))
    · rcases h.2.2.2 q h1 with h4 | h4
      · exact Or.inl (lk_st1_mem.mpr (Or.inr ⟨h4, h2, h3⟩))
      · exact Or.inr h4
theorem lk_W_ok {L' L : mx_L} (h : lk_W L' L) {n : Nat} (ho : mx_okl n L' = true) : mx_okl n L = true := by
  unfold mx_okl at *
  rw [List.all_eq_true] at *
  intro q hq
  rcases h.2.2.2 q hq with h1 | h1
  · exact ho q h1
  · obtain ⟨a, v⟩ := q
    cases v with
    | ref x => exact absurd h1 (by simp [lk_nr])
    | _ => rfl
/-- what the step says of more locals -/
def lk_P (G : mx_S → Option mx_S) : Prop := ∀ (pc : Nat) (L' L : mx_L) (S : List Value) (w : mx_W) (k : Nat × Nat) (st' : mx_S), lk_W L' L → G (pc, L', S, w, k) = some st' → ∃ L2, lk_W st'.2.1 L2 ∧ G (pc, L, S, w, k) = some (st'.1, L2, st'.2.2)
/-- a step that does not look at the locals -/
theorem lk_nl {G : mx_S → Option mx_S} (g : Nat → List Value → mx_W → Nat × Nat → Option (Nat × List Value × mx_W × Nat × Nat)) (hG : ∀ pc L S w k, G (pc, L, S, w, k) = (g pc S w k).map (fun q => (q.1, L, q.2.1, q.2.2))) : lk_P G := by
  intro pc L' L S w k st' hW h
  rw [hG] at h ⊢
  cases hg : g pc S w k with
  | none => rw [hg] at h; cases h
  | some q =>
    rw [hg] at h
    cases h
    exact ⟨L, hW, rfl⟩
theorem lk_none : lk_P (fun _ => none) := fun _ _ _ _ _ _ _ _ h => nomatch h
theorem lk_bind {α : Type} {o : Option α} {G : α → mx_S → Option mx_S} (h : ∀ a, lk_P (G a)) : lk_P (fun st => o.bind fun a => G a st) := by
  cases o with
  | none => exact lk_none
  | some a => exact h a
theorem lk_bif {b : Bool} {G : mx_S → Option mx_S} (h : lk_P G) : lk_P (fun st => bif b then G st else none) := by
  cases b with
  | false => exact lk_none
  | true => exact h
theorem lk_nl0 {G : mx_S → Option mx_S} (hG : ∀ pc L S w k, G (pc, L, S, w, k) = (G (pc, [], S, w, k)).map (fun q => (q.1, L, q.2.2))) : lk_P G := by
  intro pc L' L S w k st' hW h
  rw [hG] at h ⊢
  cases hg : G (pc, [], S, w, k) with
  | none => rw [hg] at h; cases h
  | some q =>
    rw [hg] at h
    cases h
    exact ⟨L, hW, rfl⟩
theorem lk_ii (f : Int32 → Int32 → Int32) : lk_P (mx_ii f) := lk_nl0 (fun pc L S w k => by
  rcases S with _ | ⟨v1, _ | ⟨v2, r⟩⟩ <;> (try cases v1) <;> (try cases v2) <;> rfl)
theorem lk_dv (f : Int32 → Int32 → Int32) : lk_P (mx_dv f) := lk_nl0 (fun pc L S w k => by
  rcases S with _ | ⟨v1, _ | ⟨v2, r⟩⟩ <;> (try cases v1) <;> (try cases v2) <;> first | rfl | (simp only [mx_dv]; split <;> rfl))
theorem lk_push (n : Nat) (v : Value) : lk_P (mx_push n v) := lk_nl0 (fun pc L S w k => rfl)
theorem lk_ldi (n i : Nat) : lk_P (mx_ldi n i) := by
  intro pc L' L S w k st' hW h
  unfold mx_ldi at h ⊢
  dsimp only at h ⊢
  cases hf : mx_fd L' i with
  | none => rw [hf] at h; cases h
  | some v =>
    rw [hf] at h
    rw [lk_W_fd hW hf]
    cases v <;> first | (cases h; exact ⟨L, hW, rfl⟩) | cases h
theorem lk_ldl (n i : Nat) : lk_P (mx_ldl n i) := by
  intro pc L' L S w k st' hW h
  unfold mx_ldl at h ⊢
  dsimp only at h ⊢
  cases hf : mx_fd L' i with
  | none => rw [hf] at h; cases h
  | some v =>
    rw [hf] at h
    rw [lk_W_fd hW hf]
    cases v <;> first | (cases h; exact ⟨L, hW, rfl⟩) | cases h
theorem lk_lda (n i : Nat) : lk_P (mx_lda n i) := by
  intro pc L' L S w k st' hW h
  unfold mx_lda at h ⊢
  dsimp only at h ⊢
  cases hf : mx_fd L' i with
  | none => rw [hf] at h; cases h
  | some v =>
    rw [hf] at h
    rw [lk_W_fd hW hf]
    cases v <;> first | (cases h; exact ⟨L, hW, rfl⟩) | cases h
theorem lk_sti (n i ml : Nat) : lk_P (mx_sti n i ml) := by
  intro pc L' L S w k st' hW h
  rcases S with _ | ⟨v1, r⟩
  · cases h
  cases v1 with
  | int x =>
    simp only [mx_sti] at h ⊢
    cases hb : Nat.blt i ml with
    | false => rw [hb] at h; cases h
    | true =>
      rw [hb] at h
      cases h
      exact ⟨_, lk_W_st hW i _, rfl⟩
  | _ => cases h
theorem lk_sta (n i ml : Nat) : lk_P (mx_sta n i ml) := by
  intro pc L' L S w k st' hW h
  rcases S with _ | ⟨v1, r⟩
  · cases h
  cases v1 with
  | ref x =>
    simp only [mx_sta] at h ⊢
    cases hb : Nat.blt i ml with
    | false => rw [hb] at h; cases h
    | true =>
      rw [hb] at h
      cases h
      exact ⟨_, lk_W_st hW i _, rfl⟩
  | _ => cases h
theorem lk_inc (i ml : Nat) (n : Int) : lk_P (mx_inc i ml n) := by
  intro pc L' L S w k st' hW h
  unfold mx_inc at h ⊢
  dsimp only at h ⊢
  cases hf : mx_fd L' i with
  | none => rw [hf] at h; cases h
  | some v =>
    rw [hf] at h
    rw [lk_W_fd hW hf]
    cases v with
    | int x =>
      dsimp only at h ⊢
      cases hb : Nat.blt i ml with
      | false => rw [hb] at h; cases h
      | true =>
        rw [hb] at h
        cases h
        exact ⟨_, lk_W_st hW i _, rfl⟩
    | _ => cases h
theorem lk_i2 (f : Int64 → Int64 → Int64) : lk_P (mx_i2 f) := lk_nl0 (fun pc L S w k => by
  rcases S with _ | ⟨v1, _ | ⟨v2, r⟩⟩ <;> (try cases v1) <;> (try cases v2) <;> rfl)
theorem lk_ls (f : Int64 → Int32 → Int64) : lk_P (mx_ls f) := lk_nl0 (fun pc L S w k => by
  rcases S with _ | ⟨v1, _ | ⟨v2, r⟩⟩ <;> (try cases v1) <;> (try cases v2) <;> rfl)
theorem lk_l2i : lk_P mx_l2i := lk_nl0 (fun pc L S w k => by rcases S with _ | ⟨v1, r⟩ <;> (try cases v1) <;> rfl)
theorem lk_i2l : lk_P mx_i2l := lk_nl0 (fun pc L S w k => by rcases S with _ | ⟨v1, r⟩ <;> (try cases v1) <;> rfl)
theorem lk_dup : lk_P mx_dup := lk_nl0 (fun pc L S w k => by rcases S with _ | ⟨v1, r⟩ <;> (try cases v1) <;> rfl)
theorem lk_pop : lk_P mx_pop := lk_nl0 (fun pc L S w k => by rcases S with _ | ⟨v1, r⟩ <;> (try cases v1) <;> rfl)
theorem lk_dup2 : lk_P mx_dup2 := lk_nl0 (fun pc L S w k => by rcases S with _ | ⟨v1, _ | ⟨v2, r⟩⟩ <;> (try cases v1) <;> (try cases v2) <;> rfl)
theorem lk_lcmp : lk_P mx_lcmp := lk_nl0 (fun pc L S w k => by rcases S with _ | ⟨v1, _ | ⟨v2, r⟩⟩ <;> (try cases v1) <;> (try cases v2) <;> rfl)
theorem lk_goto (off : Int) : lk_P (mx_goto off) := lk_nl0 (fun pc L S w k => by
  unfold mx_goto; dsimp only; cases decide (0 ≤ (pc : Int) + off) <;> rfl)
theorem lk_if (c : Jvm.ClassFile.Cond) (off : Int) : lk_P (mx_if c off) := lk_nl0 (fun pc L S w k => by
  rcases S with _ | ⟨v1, r⟩ <;> (try cases v1) <;> first | rfl | (unfold mx_if; dsimp only; cases decide (0 ≤ (pc : Int) + off) <;> rfl))
theorem lk_cmp (c : Jvm.ClassFile.Cond) (off : Int) : lk_P (mx_cmp c off) := lk_nl0 (fun pc L S w k => by
  rcases S with _ | ⟨v1, _ | ⟨v2, r⟩⟩ <;> (try cases v1) <;> (try cases v2) <;> first | rfl | (unfold mx_cmp; dsimp only; cases decide (0 ≤ (pc : Int) + off) <;> rfl))
theorem lk_tab (d lo hi : Int) (offs : Array Int) : lk_P (mx_tab d lo hi offs) := lk_nl0 (fun pc L S w k => by
  rcases S with _ | ⟨v1, r⟩ <;> (try cases v1) <;> first | rfl | skip
  unfold mx_tab
  dsimp only
  split
  · unfold mx_goto; dsimp only; cases decide (0 ≤ (pc : Int) + d) <;> rfl
  · split
    · rename_i off _
      unfold mx_goto; dsimp only; cases decide (0 ≤ (pc : Int) + off) <;> rfl
    · rfl)
theorem lk_getf (q : Option (Nat × Nat)) : lk_P (mx_getf q) := lk_nl0 (fun pc L S w k => by
  rcases q with _ | ⟨ci, kk⟩
  · rfl
  rcases S with _ | ⟨v1, r⟩ <;> (try cases v1) <;> first | rfl | skip
  unfold mx_getf
  dsimp only
  split
  · split
    · rename_i cj _ _ _ _ _
      cases cj == ci <;> rfl
    · rfl
  · rfl)
theorem lk_alen : lk_P mx_alen := lk_nl0 (fun pc L S w k => by
  rcases S with _ | ⟨v1, r⟩ <;> (try cases v1) <;> first | rfl | skip
  unfold mx_alen
  dsimp only
  split
  · rename_i t _ _
    cases Nat.blt t 3 <;> rfl
  · rfl)
theorem lk_putf (cl : List vw_C) (ty : Nat → Nat → FieldType) (M : mx_M) (q : Option (Nat × Nat)) : lk_P (mx_putf cl ty M q) := lk_nl0 (fun pc L S w k => by
  rcases q with _ | ⟨ci, kk⟩
  · rfl
  rcases S with _ | ⟨v1, _ | ⟨v2, r⟩⟩ <;> (try cases v2) <;> first | rfl | skip
  unfold mx_putf
  dsimp only
  split
  · rename_i cj fs _
    cases cj == ci && Nat.blt kk fs.length && mx_fit (ty ci kk) v1
    · rfl
    · simp only [cond_true]
      split
      · rename_i rr _
        cases !(rr.2.1 kk).2.2.2 || (mx_kd M == 2 && ci == mx_ci M) <;> rfl
      · rfl
  · rfl)
theorem lk_ald (t : Nat) : lk_P (mx_ald t) := lk_nl0 (fun pc L S w k => by
  rcases S with _ | ⟨v1, _ | ⟨v2, r⟩⟩ <;> (try cases v1) <;> (try cases v2) <;> first | rfl | skip
  unfold mx_ald
  dsimp only
  split
  · split <;> rfl
  · rfl)
theorem lk_lald : lk_P mx_lald := lk_nl0 (fun pc L S w k => by
  rcases S with _ | ⟨v1, _ | ⟨v2, r⟩⟩ <;> (try cases v1) <;> (try cases v2) <;> first | rfl | skip
  unfold mx_lald
  dsimp only
  split
  · split <;> rfl
  · rfl)
theorem lk_ast (t : Nat) (g : Int32 → Int32) : lk_P (mx_ast t g) := lk_nl0 (fun pc L S w k => by
  rcases S with _ | ⟨v1, _ | ⟨v2, _ | ⟨v3, r⟩⟩⟩ <;> (try cases v1) <;> (try cases v2) <;> (try cases v3) <;> first | rfl | skip
  unfold mx_ast
  dsimp only
  split
  · split <;> rfl
  · rfl)
theorem lk_last : lk_P mx_last := lk_nl0 (fun pc L S w k => by
  rcases S with _ | ⟨v1, _ | ⟨v2, _ | ⟨v3, r⟩⟩⟩ <;> (try cases v1) <;> (try cases v2) <;> (try cases v3) <;> first | rfl | skip
  unfold mx_last
  dsimp only
  split
  · split <;> rfl
  · rfl)
theorem lk_j0 : lk_P mx_j0 := lk_nl0 (fun pc L S w k => by
  rcases S with _ | ⟨v1, r⟩ <;> (try cases v1) <;> first | rfl | skip
  unfold mx_j0
  dsimp only
  cases Nat.ble (mx_cs r) 8 <;> rfl)
theorem lk_mm (f : Int32 → Int32 → Int32) : lk_P (mx_mm f) := lk_nl0 (fun pc L S w k => by
  rcases S with _ | ⟨v1, _ | ⟨v2, r⟩⟩ <;> (try cases v1) <;> (try cases v2) <;> first | rfl | skip
  unfold mx_mm
  dsimp only
  cases Nat.ble (mx_cs r) 8 <;> rfl)
theorem lk_cp : lk_P mx_cp := lk_nl0 (fun pc L S w k => by
  rcases S with _ | ⟨v1, S⟩ <;> (try cases v1) <;> first | rfl | skip
  rcases S with _ | ⟨v1, S⟩ <;> (try cases v1) <;> first | rfl | skip
  rcases S with _ | ⟨v1, S⟩ <;> (try cases v1) <;> first | rfl | skip
  rcases S with _ | ⟨v1, S⟩ <;> (try cases v1) <;> first | rfl | skip
  rcases S with _ | ⟨v1, S⟩ <;> (try cases v1) <;> first | rfl | skip
  unfold mx_cp
  dsimp only
  split
  · split <;> rfl
  · rfl)
theorem lk_jdk (n : Nat) : lk_P (mx_jdk n) := by
  unfold mx_jdk
  rcases n with _ | _ | _ | _ | n
  · exact lk_none
  · exact lk_mm _
  · exact lk_mm _
  · exact lk_cp
  · exact lk_none
theorem lk_all {pc : Nat} {L' L : mx_L} {S : List Value} {w : mx_W} {k : Nat × Nat} (hW : lk_W L' L) (h : mx_all (pc, L', S, w, k) = true) : mx_all (pc, L, S, w, k) = true := by
  unfold mx_all at *
  dsimp only at *
  simp only [Bool.and_eq_true] at *
  exact ⟨⟨⟨h.1.1.1, lk_W_ok hW h.1.1.2⟩, h.1.2⟩, h.2⟩
theorem lk_newc (cl : List vw_C) (ty : Nat → Nat → FieldType) (q : Option Nat) : lk_P (mx_newc cl ty q) := by
  intro pc L' L S w k st' hW h
  unfold mx_newc at h ⊢
  rcases q with _ | ci
  · cases h
  dsimp only at h ⊢
  cases hc : cl[ci]? with
  | none => rw [hc] at h; cases h
  | some rr =>
    rw [hc] at h
    dsimp only at h ⊢
    cases ha : mx_all (pc, L', S, w, k) with
    | false => rw [ha] at h; cases h
    | true =>
      rw [ha] at h
      rw [lk_all hW ha]
      cases h
      exact ⟨L, hW, rfl⟩
theorem lk_newa (t : ArrayType) : lk_P (mx_newa t) := by
  intro pc L' L S w k st' hW h
  obtain ⟨kc, ks⟩ := k
  rcases S with _ | ⟨v1, r⟩
  · cases h
  cases v1 with
  | int n =>
    unfold mx_newa at h ⊢
    dsimp only at h ⊢
    cases ha : mx_all (pc, L', .int n :: r, w, kc, ks) with
    | false => rw [ha] at h; cases h
    | true =>
      rw [ha] at h
      rw [lk_all hW ha]
      simp only [cond_true] at h ⊢
      split at h
      · rename_i h1
        rw [if_pos h1]
        cases t <;> first | (cases h; exact ⟨L, hW, rfl⟩) | cases h
      · cases h
  | _ => cases h
theorem lk_stp (cl : List vw_C) (ty : Nat → Nat → FieldType) (M : mx_M) (i : Instr) : lk_P (mx_stp cl ty M i) := by
  cases i <;> first
    | exact lk_push _ _ | exact lk_bif (lk_push _ _) | exact lk_bind (fun _ => lk_push _ _) | exact lk_ldi _ _ | exact lk_ldl _ _ | exact lk_lda _ _ | exact lk_sti _ _ _ | exact lk_sta _ _ _ | exact lk_inc _ _ _
    | exact lk_ii _ | exact lk_dv _ | exact lk_i2 _ | exact lk_ls _ | exact lk_l2i | exact lk_i2l | exact lk_dup | exact lk_dup2 | exact lk_pop | exact lk_goto _ | exact lk_if _ _ | exact lk_cmp _ _ | exact lk_tab _ _ _ _
    | exact lk_getf _ | exact lk_putf _ _ _ _ | exact lk_alen | exact lk_ald _ | exact lk_ast _ _ | exact lk_newc _ _ _ | exact lk_newa _ | exact lk_lcmp | exact lk_lald | exact lk_last
    | exact lk_bind (fun _ => lk_bif lk_j0) | exact lk_bind (fun _ => lk_bif (lk_jdk _)) | exact lk_none
theorem lk_go (cl : List vw_C) (ty : Nat → Nat → FieldType) (M : mx_M) (i : Instr) (len : Nat) : lk_P (mx_go cl ty M i len) := lk_bif (lk_stp cl ty M i)
theorem lk_end {M : mx_M} {i : Instr} {pc : Nat} {L' L : mx_L} {S : List Value} {k : mx_W × Nat × Nat} : mx_end M i (pc, L', S, k) = mx_end M i (pc, L, S, k) := by
  unfold mx_end
  generalize mx_ret M = t
  cases i
  case ireturn =>
    rcases t with _ | t
    · rcases S with _ | ⟨v1, _ | ⟨v2, r⟩⟩ <;> (try cases v1) <;> rfl
    · rcases S with _ | ⟨v1, _ | ⟨v2, r⟩⟩ <;> (try cases v1) <;> cases t <;> rfl
  case return_ =>
    rcases t with _ | t
    · rcases S with _ | ⟨v1, r⟩ <;> rfl
    · cases t <;> rfl
  all_goals rfl
theorem lk_cal {MT : Nat → Option mx_M} {M : mx_M} {i : Instr} {pc : Nat} {L' L : mx_L} {S : List Value} {k : mx_W × Nat × Nat} : mx_cal MT M i (pc, L', S, k) = mx_cal MT M i (pc, L, S, k) := rfl
theorem lk_R {cl : List vw_C} {ty : Nat → Nat → FieldType} {MT : Nat → Option mx_M} : ∀ (f : Nat) (mi : Nat) (pc : Nat) (L' L : mx_L) (S : List Value) (w : mx_W) (k : Nat × Nat) (r : mx_A), lk_W L' L → mx_R cl ty MT f mi (pc, L', S, w, k) r → mx_R cl ty MT f mi (pc, L, S, w, k) r := by
  intro f
  induction f with
  | zero => intro mi pc L' L S w k r _ h; exact h.elim
  | succ f ih =>
    intro mi pc L' L S w k r hW h
    obtain ⟨M, i, len, h1, h2, h3⟩ := h
    refine ⟨M, i, len, h1, h2, ?_⟩
    rcases h3 with h3 | ⟨st', h3, h4⟩ | ⟨h3, n, M', av, rest, q, h4, h8, h5, h6, h7⟩
    · exact Or.inl ⟨h3.1, lk_end.trans h3.2⟩
    · obtain ⟨L2, hW2, h5⟩ := lk_go cl ty M i len pc L' L S w k st' hW h3
      refine Or.inr (Or.inl ⟨_, h5, ?_⟩)
      obtain ⟨pc2, L2', S2, w2, k2⟩ := st'
      exact ih mi pc2 L2' L2 S2 w2 k2 r hW2 h4
    · refine Or.inr (Or.inr ⟨h3, n, M', av, rest, q, h4, h8, h5, ?_, ?_⟩)
      · rcases h6 with h6 | h6
        · exact Or.inl h6
        · refine Or.inr ?_
          simp only [Bool.and_eq_true] at h6 ⊢
          exact ⟨⟨h6.1.1, lk_W_ok hW h6.1.2⟩, h6.2⟩
      · exact ih _ _ _ _ _ _ _ _ hW h7
/-- the locals of these numbers alone -/
def lk_of (ks : List Nat) (L : mx_L) : mx_L := ks.filterMap (fun i => (mx_fd L i).map (fun v => (i, v)))
def lk_ck (ks : List Nat) (L : mx_L) : Bool := decide ks.Nodup && decide (lk_ks L).Nodup && L.all (fun q => ks.contains q.1 || lk_nr q.2)
theorem lk_ok {ks : List Nat} {L : mx_L} (h : lk_ck ks L = true) : lk_W (lk_of ks L) L := by
  unfold lk_ck at h
  simp only [Bool.and_eq_true, decide_eq_true_eq, List.all_eq_true] at h
  obtain ⟨⟨h1, h2⟩, h3⟩ := h
  have hm : ∀ q : Nat × Value, q ∈ lk_of ks L ↔ q.1 ∈ ks ∧ q ∈ L := by
    intro q
    unfold lk_of
    rw [List.mem_filterMap]
    constructor
    · rintro ⟨i, hi, h⟩
      cases hf : mx_fd L i with
      | none => rw [hf] at h; cases h
      | some v =>
        rw [hf] at h
        cases h
        exact ⟨hi, mx_fd_mem hf⟩
    · rintro ⟨hi, h⟩
      refine ⟨q.1, hi, ?_⟩
      rw [lk_fd h2 (show (q.1, q.2) ∈ L from h)]
      rfl
  refine ⟨?_, h2, fun q hq => ((hm q).mp hq).2, fun q hq => ?_⟩
  · have : (lk_ks (lk_of ks L)).Sublist ks := by
      unfold lk_ks lk_of
      clear hm h3 h1
      induction ks with
      | nil => exact List.Sublist.refl _
      | cons i ks ih =>
        rw [List.filterMap_cons]
        cases mx_fd L i with
        | none => exact List.Sublist.cons _ ih
        | some v =>
          rw [Option.map_some, List.map_cons]
          exact List.Sublist.cons_cons _ ih
    exact List.Nodup.sublist this h1
  · have := h3 q hq
    rw [Bool.or_eq_true] at this
    rcases this with h | h
    · exact Or.inl ((hm q).mpr ⟨by simpa using h, hq⟩)
    · exact Or.inr h
/-- only these locals are looked at from here on -/
theorem xwk {mi pc : Nat} {L L' : mx_L} {S : List Value} {w : mx_W} {k : Nat × Nat} {r : mx_A} (ks : List Nat) (h1 : lk_ck ks L = true) (h2 : lk_of ks L = L') (h : X mi (pc, L', S, w, k) r) : X mi (pc, L, S, w, k) r := by
  subst h2
  obtain ⟨f, h⟩ := h
  exact ⟨f, lk_R f mi pc _ _ S w k r (lk_ok h1) h⟩
end
section
/-- the cells of a PackDisk of n sectors; a: on, next, rows, generation, openKind, openLength, repaired, found, the journal's size, the gaps' size and inverse; f: the arrays in the order of their making -/
def wD (n : Nat) (a0 a1 a2 a3 a4 a5 a6 a7 a8 a9 a10 : Int32) (f0 f1 f2 f3 f4 f5 f6 f7 f8 f9 f10 f11 f12 : Nat → Int32) (rest : mx_W) : mx_W := .inr (4, [.ref 1, .ref 5, .ref 9, .ref 11, .ref 16, .ref 17, .int a0, .int a1, .int a2, .int a3, .int a4, .int a5, .int a6, .int a7]) :: .inr (3, [.int (nI n), .ref 2, .ref 3, .ref 4]) :: .inl (0, 32 * n, .inl f0) :: .inl (1, n, .inl f1) :: .inl (0, n, .inl f2) :: .inr (2, [.ref 6, .ref 7, .ref 8, .int a8]) :: .inl (0, 60, .inl f3) :: .inl (0, 1920, .inl f4) :: .inl (1, 60, .inl f5) :: .inr (0, [.ref 10]) :: .inl (0, 32, .inl f6) :: .inr (1, [.ref 12, .ref 13, .ref 14, .ref 15, .int a9, .int a10]) :: .inl (0, 4, .inl f7) :: .inl (0, 4, .inl f8) :: .inl (0, 4, .inl f9) :: .inl (0, 48, .inl f10) :: .inl (0, 96, .inl f11) :: .inl (0, 4, .inl f12) :: rest
/-- the cells of a PackDiskModel; b: thrown, isOn, next, rows, generation, repaired, found, kind, size, writes, unknowns; g: its arrays -/
def wM (n : Nat) (b0 b1 b2 b3 b4 b5 b6 b7 b8 b9 b10 : Int32) (g0 g1 g2 g3 g4 g5 g6 g7 g8 g9 g10 g11 g12 g13 g14 : Nat → Int32) (rest : mx_W) : mx_W := .inr (5, [.int b0, .int (nI n), .ref 19, .ref 20, .int b1, .int b2, .int b3, .int b4, .int b5, .int b6, .int b7, .int b8, .ref 21, .int b9, .ref 22, .ref 23, .ref 24, .ref 25, .ref 26, .int b10, .ref 27, .ref 28, .ref 29, .ref 30, .ref 31, .ref 32, .ref 33]) :: .inl (0, 1920, .inl g0) :: .inl (1, 60, .inl g1) :: .inl (0, 96, .inl g2) :: .inl (0, 64, .inl g3) :: .inl (0, 2048, .inl g4) :: .inl (1, 64, .inl g5) :: .inl (0, 32, .inl g6) :: .inl (0, 4, .inl g7) :: .inl (0, 4, .inl g8) :: .inl (0, 4, .inl g9) :: .inl (0, 4, .inl g10) :: .inl (0, 24, .inl g11) :: .inl (0, 24, .inl g12) :: .inl (0, 24, .inl g13) :: .inl (0, 24, .inl g14) :: rest

/-- a state: the count of sectors, numbers, arrays -/
abbrev St : Type := Nat × (Nat → Int32) × (Nat → Nat → Int32)
def gN (s : St) : Nat := s.1
def gI (s : St) (k : Nat) : Int32 := s.2.1 k
def gA (s : St) (k : Nat) : Nat → Int32 := s.2.2 k
def sI (s : St) (k : Nat) (v : Int32) : St := (s.1, upd s.2.1 k v, s.2.2)
def sA (s : St) (k : Nat) (f : Nat → Int32) : St := (s.1, s.2.1, fun j => if j = k then f else s.2.2 j)
def bnd {α β : Type} (x : α) (K : α → Option β) : Option β := K x
def ldA {α : Type} (f : Nat → Int32) (n : Nat) (i : Int32) (K : Int32 → Option α) : Option α := if ¬ (i < 0 ∨ n ≤ i.toNatClampNeg) then K (f i.toNatClampNeg) else none
def stA {α : Type} (s : St) (k n : Nat) (i v : Int32) (K : St → Option α) : Option α := if ¬ (i < 0 ∨ n ≤ i.toNatClampNeg) then K (sA s k (upd (gA s k) i.toNatClampNeg v)) else none
def cpA {α : Type} (s : St) (k0 n0 k1 n1 : Nat) (sp dp z : Int32) (K : St → Option α) : Option α := if ¬ sp < 0 ∧ ¬ dp < 0 ∧ ¬ z < 0 ∧ sp.toNatClampNeg + z.toNatClampNeg ≤ n0 ∧ dp.toNatClampNeg + z.toNatClampNeg ≤ n1 then K (sA s k1 (va_cpy (gA s k0) (gA s k1) sp.toNatClampNeg dp.toNatClampNeg z.toNatClampNeg)) else none
def rz {α : Type} (v : Int32) (x : Option α) : Option α := if v = 0 ∨ v = 1 then x else none
def bindP {α β γ : Type} (o : Option (α × β)) (K : α → β → Option γ) : Option γ := o.bind fun q => K q.1 q.2
theorem obind {α β : Type} {o : Option α} {K : α → Option β} {r : β} (h : o.bind K = some r) : ∃ v, o = some v ∧ K v = some r := by
  cases o with
  | none => cases h
  | some v => exact ⟨v, rfl, h⟩
theorem obindP {α β γ : Type} {o : Option (α × β)} {K : α → β → Option γ} {r : γ} (h : bindP o K = some r) : ∃ v t, o = some (v, t) ∧ K v t = some r := by
  cases o with
  | none => cases h
  | some v => exact ⟨v.1, v.2, rfl, h⟩
theorem orz {α : Type} {v : Int32} {x : Option α} {r : α} (h : rz v x = some r) : (v = 0 ∨ v = 1) ∧ x = some r := by
  unfold rz at h
  split at h
  · rename_i hz; exact ⟨hz, h⟩
  · cases h
theorem osw {α : Type} {p : Prop} [Decidable p] {A B : Option α} {r : α} (h : (bif decide p then A else B) = some r) : (p ∧ A = some r) ∨ (¬ p ∧ B = some r) := by
  by_cases hp : p
  · rw [decide_eq_true hp] at h; exact Or.inl ⟨hp, h⟩
  · rw [decide_eq_false hp] at h; exact Or.inr ⟨hp, h⟩
theorem sw_ne {x : Int32} {i : Nat} (hi : i < 64) (h : ¬ x = nI i) : x.toInt ≠ (i : Int) := by
  intro e
  apply h
  apply Int32.toInt_inj.mp
  rw [e]
  have : ∀ j : Fin 64, ((j : Nat) : Int) = (nI (j : Nat)).toInt := by decide
  exact this ⟨i, hi⟩

def wd (s : St) (rest : mx_W) : mx_W := wD (gN s) (gI s 0) (gI s 1) (gI s 2) (gI s 3) (gI s 4) (gI s 5) (gI s 6) (gI s 7) (gI s 8) (gI s 9) (gI s 10) (gA s 0) (gA s 1) (gA s 2) (gA s 3) (gA s 4) (gA s 5) (gA s 6) (gA s 7) (gA s 8) (gA s 9) (gA s 10) (gA s 11) (gA s 12) rest
def wm (s : St) (rest : mx_W) : mx_W := wM (gN s) (gI s 0) (gI s 1) (gI s 2) (gI s 3) (gI s 4) (gI s 5) (gI s 6) (gI s 7) (gI s 8) (gI s 9) (gI s 10) (gA s 0) (gA s 1) (gA s 2) (gA s 3) (gA s 4) (gA s 5) (gA s 6) (gA s 7) (gA s 8) (gA s 9) (gA s 10) (gA s 11) (gA s 12) (gA s 13) (gA s 14) rest
theorem at_2 {s : St} {rest : mx_W} : (wd s rest)[2]? = some (.inl (0, 32 * gN s, .inl (gA s 0))) := rfl
theorem set_2 {s : St} {rest : mx_W} {f : Nat → Int32} : (wd s rest).set 2 (.inl (0, 32 * gN s, .inl f)) = wd (sA s 0 f) rest := rfl
theorem at_3 {s : St} {rest : mx_W} : (wd s rest)[3]? = some (.inl (1, gN s, .inl (gA s 1))) := rfl
theorem set_3 {s : St} {rest : mx_W} {f : Nat → Int32} : (wd s rest).set 3 (.inl (1, gN s, .inl f)) = wd (sA s 1 f) rest := rfl
theorem at_4 {s : St} {rest : mx_W} : (wd s rest)[4]? = some (.inl (0, gN s, .inl (gA s 2))) := rfl
theorem set_4 {s : St} {rest : mx_W} {f : Nat → Int32} : (wd s rest).set 4 (.inl (0, gN s, .inl f)) = wd (sA s 2 f) rest := rfl
theorem at_6 {s : St} {rest : mx_W} : (wd s rest)[6]? = some (.inl (0, 60, .inl (gA s 3))) := rfl
theorem set_6 {s : St} {rest : mx_W} {f : Nat → Int32} : (wd s rest).set 6 (.inl (0, 60, .inl f)) = wd (sA s 3 f) rest := rfl
theorem at_7 {s : St} {rest : mx_W} : (wd s rest)[7]? = some (.inl (0, 1920, .inl (gA s 4))) := rfl
theorem set_7 {s : St} {rest : mx_W} {f : Nat → Int32} : (wd s rest).set 7 (.inl (0, 1920, .inl f)) = wd (sA s 4 f) rest := rfl
theorem at_8 {s : St} {rest : mx_W} : (wd s rest)[8]? = some (.inl (1, 60, .inl (gA s 5))) := rfl
theorem set_8 {s : St} {rest : mx_W} {f : Nat → Int32} : (wd s rest).set 8 (.inl (1, 60, .inl f)) = wd (sA s 5 f) rest := rfl
theorem at_10 {s : St} {rest : mx_W} : (wd s rest)[10]? = some (.inl (0, 32, .inl (gA s 6))) := rfl
theorem set_10 {s : St} {rest : mx_W} {f : Nat → Int32} : (wd s rest).set 10 (.inl (0, 32, .inl f)) = wd (sA s 6 f) rest := rfl
theorem at_12 {s : St} {rest : mx_W} : (wd s rest)[12]? = some (.inl (0, 4, .inl (gA s 7))) := rfl
theorem set_12 {s : St} {rest : mx_W} {f : Nat → Int32} : (wd s rest).set 12 (.inl (0, 4, .inl f)) = wd (sA s 7 f) rest := rfl
theorem at_13 {s : St} {rest : mx_W} : (wd s rest)[13]? = some (.inl (0, 4, .inl (gA s 8))) := rfl
theorem set_13 {s : St} {rest : mx_W} {f : Nat → Int32} : (wd s rest).set 13 (.inl (0, 4, .inl f)) = wd (sA s 8 f) rest := rfl
theorem at_14 {s : St} {rest : mx_W} : (wd s rest)[14]? = some (.inl (0, 4, .inl (gA s 9))) := rfl
theorem set_14 {s : St} {rest : mx_W} {f : Nat → Int32} : (wd s rest).set 14 (.inl (0, 4, .inl f)) = wd (sA s 9 f) rest := rfl
theorem at_15 {s : St} {rest : mx_W} : (wd s rest)[15]? = some (.inl (0, 48, .inl (gA s 10))) := rfl
theorem set_15 {s : St} {rest : mx_W} {f : Nat → Int32} : (wd s rest).set 15 (.inl (0, 48, .inl f)) = wd (sA s 10 f) rest := rfl
theorem at_16 {s : St} {rest : mx_W} : (wd s rest)[16]? = some (.inl (0, 96, .inl (gA s 11))) := rfl
theorem set_16 {s : St} {rest : mx_W} {f : Nat → Int32} : (wd s rest).set 16 (.inl (0, 96, .inl f)) = wd (sA s 11 f) rest := rfl
theorem at_17 {s : St} {rest : mx_W} : (wd s rest)[17]? = some (.inl (0, 4, .inl (gA s 12))) := rfl
theorem set_17 {s : St} {rest : mx_W} {f : Nat → Int32} : (wd s rest).set 17 (.inl (0, 4, .inl f)) = wd (sA s 12 f) rest := rfl
theorem at_19 {d s : St} {rest : mx_W} : (wd d (wm s rest))[19]? = some (.inl (0, 1920, .inl (gA s 0))) := rfl
theorem set_19 {d s : St} {rest : mx_W} {f : Nat → Int32} : (wd d (wm s rest)).set 19 (.inl (0, 1920, .inl f)) = wd d (wm (sA s 0 f) rest) := rfl
theorem at_20 {d s : St} {rest : mx_W} : (wd d (wm s rest))[20]? = some (.inl (1, 60, .inl (gA s 1))) := rfl
theorem set_20 {d s : St} {rest : mx_W} {f : Nat → Int32} : (wd d (wm s rest)).set 20 (.inl (1, 60, .inl f)) = wd d (wm (sA s 1 f) rest) := rfl
theorem at_21 {d s : St} {rest : mx_W} : (wd d (wm s rest))[21]? = some (.inl (0, 96, .inl (gA s 2))) := rfl
theorem set_21 {d s : St} {rest : mx_W} {f : Nat → Int32} : (wd d (wm s rest)).set 21 (.inl (0, 96, .inl f)) = wd d (wm (sA s 2 f) rest) := rfl
theorem at_22 {d s : St} {rest : mx_W} : (wd d (wm s rest))[22]? = some (.inl (0, 64, .inl (gA s 3))) := rfl
theorem set_22 {d s : St} {rest : mx_W} {f : Nat → Int32} : (wd d (wm s rest)).set 22 (.inl (0, 64, .inl f)) = wd d (wm (sA s 3 f) rest) := rfl
theorem at_23 {d s : St} {rest : mx_W} : (wd d (wm s rest))[23]? = some (.inl (0, 2048, .inl (gA s 4))) := rfl
theorem set_23 {d s : St} {rest : mx_W} {f : Nat → Int32} : (wd d (wm s rest)).set 23 (.inl (0, 2048, .inl f)) = wd d (wm (sA s 4 f) rest) := rfl
theorem at_24 {d s : St} {rest : mx_W} : (wd d (wm s rest))[24]? = some (.inl (1, 64, .inl (gA s 5))) := rfl
theorem set_24 {d s : St} {rest : mx_W} {f : Nat → Int32} : (wd d (wm s rest)).set 24 (.inl (1, 64, .inl f)) = wd d (wm (sA s 5 f) rest) := rfl
theorem at_25 {d s : St} {rest : mx_W} : (wd d (wm s rest))[25]? = some (.inl (0, 32, .inl (gA s 6))) := rfl
theorem set_25 {d s : St} {rest : mx_W} {f : Nat → Int32} : (wd d (wm s rest)).set 25 (.inl (0, 32, .inl f)) = wd d (wm (sA s 6 f) rest) := rfl
theorem at_26 {d s : St} {rest : mx_W} : (wd d (wm s rest))[26]? = some (.inl (0, 4, .inl (gA s 7))) := rfl
theorem set_26 {d s : St} {rest : mx_W} {f : Nat → Int32} : (wd d (wm s rest)).set 26 (.inl (0, 4, .inl f)) = wd d (wm (sA s 7 f) rest) := rfl
theorem at_27 {d s : St} {rest : mx_W} : (wd d (wm s rest))[27]? = some (.inl (0, 4, .inl (gA s 8))) := rfl
theorem set_27 {d s : St} {rest : mx_W} {f : Nat → Int32} : (wd d (wm s rest)).set 27 (.inl (0, 4, .inl f)) = wd d (wm (sA s 8 f) rest) := rfl
theorem at_28 {d s : St} {rest : mx_W} : (wd d (wm s rest))[28]? = some (.inl (0, 4, .inl (gA s 9))) := rfl
theorem set_28 {d s : St} {rest : mx_W} {f : Nat → Int32} : (wd d (wm s rest)).set 28 (.inl (0, 4, .inl f)) = wd d (wm (sA s 9 f) rest) := rfl
theorem at_29 {d s : St} {rest : mx_W} : (wd d (wm s rest))[29]? = some (.inl (0, 4, .inl (gA s 10))) := rfl
theorem set_29 {d s : St} {rest : mx_W} {f : Nat → Int32} : (wd d (wm s rest)).set 29 (.inl (0, 4, .inl f)) = wd d (wm (sA s 10 f) rest) := rfl
theorem at_30 {d s : St} {rest : mx_W} : (wd d (wm s rest))[30]? = some (.inl (0, 24, .inl (gA s 11))) := rfl
theorem set_30 {d s : St} {rest : mx_W} {f : Nat → Int32} : (wd d (wm s rest)).set 30 (.inl (0, 24, .inl f)) = wd d (wm (sA s 11 f) rest) := rfl
theorem at_31 {d s : St} {rest : mx_W} : (wd d (wm s rest))[31]? = some (.inl (0, 24, .inl (gA s 12))) := rfl
theorem set_31 {d s : St} {rest : mx_W} {f : Nat → Int32} : (wd d (wm s rest)).set 31 (.inl (0, 24, .inl f)) = wd d (wm (sA s 12 f) rest) := rfl
theorem at_32 {d s : St} {rest : mx_W} : (wd d (wm s rest))[32]? = some (.inl (0, 24, .inl (gA s 13))) := rfl
theorem set_32 {d s : St} {rest : mx_W} {f : Nat → Int32} : (wd d (wm s rest)).set 32 (.inl (0, 24, .inl f)) = wd d (wm (sA s 13 f) rest) := rfl
theorem at_33 {d s : St} {rest : mx_W} : (wd d (wm s rest))[33]? = some (.inl (0, 24, .inl (gA s 14))) := rfl
theorem set_33 {d s : St} {rest : mx_W} {f : Nat → Int32} : (wd d (wm s rest)).set 33 (.inl (0, 24, .inl f)) = wd d (wm (sA s 14 f) rest) := rfl
section XF
variable {mi : Nat} {M : mx_M} {r : mx_A} {pc : Nat} {L : mx_L} {S : List Value} {w : mx_W} {k : Nat × Nat} {t : Nat} {off : Int} {x y : Int32}
theorem xifF {α : Type} {A B : Option α} {q : α} {c : Jvm.ClassFile.Cond} (h1 : tb_MT mi = some M) (h2 : decode (mx_cc M) pc = .ok (.ifCond c off, 3)) (ht : (pc : Int) + off = (t : Int)) (h : (bif mx_cnd c x 0 then A else B) = some q) (kt : A = some q → X mi (t, L, S, w, k) r) (kf : B = some q → X mi (pc + 3, L, S, w, k) r) : X mi (pc, L, .int x :: S, w, k) r :=
  xif h1 h2 ht (fun hc => kt (by rw [hc] at h; exact h)) (fun hc => kf (by rw [hc] at h; exact h))
theorem xcmpF {α : Type} {A B : Option α} {q : α} {c : Jvm.ClassFile.Cond} (h1 : tb_MT mi = some M) (h2 : decode (mx_cc M) pc = .ok (.if_icmp c off, 3)) (ht : (pc : Int) + off = (t : Int)) (h : (bif mx_cnd c x y then A else B) = some q) (kt : A = some q → X mi (t, L, S, w, k) r) (kf : B = some q → X mi (pc + 3, L, S, w, k) r) : X mi (pc, L, .int y :: .int x :: S, w, k) r :=
  xcmp h1 h2 ht (fun hc => kt (by rw [hc] at h; exact h)) (fun hc => kf (by rw [hc] at h; exact h))
theorem xifT {c : Jvm.ClassFile.Cond} (h1 : tb_MT mi = some M) (h2 : decode (mx_cc M) pc = .ok (.ifCond c off, 3)) (ht : (pc : Int) + off = (t : Int)) (hc : mx_cnd c x 0 = true) (kt : X mi (t, L, S, w, k) r) : X mi (pc, L, .int x :: S, w, k) r :=
  xif h1 h2 ht (fun _ => kt) (fun h => by rw [hc] at h; cases h)
theorem xifN {c : Jvm.ClassFile.Cond} (h1 : tb_MT mi = some M) (h2 : decode (mx_cc M) pc = .ok (.ifCond c off, 3)) (ht : (pc : Int) + off = (t : Int)) (hc : mx_cnd c x 0 = false) (kf : X mi (pc + 3, L, S, w, k) r) : X mi (pc, L, .int x :: S, w, k) r :=
  xif h1 h2 ht (fun h => by rw [hc] at h; cases h) (fun _ => kf)
theorem xcmpT {c : Jvm.ClassFile.Cond} (h1 : tb_MT mi = some M) (h2 : decode (mx_cc M) pc = .ok (.if_icmp c off, 3)) (ht : (pc : Int) + off = (t : Int)) (hc : mx_cnd c x y = true) (kt : X mi (t, L, S, w, k) r) : X mi (pc, L, .int y :: .int x :: S, w, k) r :=
  xcmp h1 h2 ht (fun _ => kt) (fun h => by rw [hc] at h; cases h)
theorem xcmpN {c : Jvm.ClassFile.Cond} (h1 : tb_MT mi = some M) (h2 : decode (mx_cc M) pc = .ok (.if_icmp c off, 3)) (ht : (pc : Int) + off = (t : Int)) (hc : mx_cnd c x y = false) (kf : X mi (pc + 3, L, S, w, k) r) : X mi (pc, L, .int y :: .int x :: S, w, k) r :=
  xcmp h1 h2 ht (fun h => by rw [hc] at h; cases h) (fun _ => kf)
theorem xldF {α : Type} {K : Int32 → Option α} {q : α} {a n : Nat} {f : Nat → Int32} (h1 : tb_MT mi = some M) (h2 : decode (mx_cc M) pc = .ok (.iaload, 1)) (hw : w[a]? = some (.inl (0, n, .inl f))) (h : ldA f n x K = some q) (kk : ∀ v, K v = some q → X mi (pc + 1, L, .int v :: S, w, k) r) : X mi (pc, L, .int x :: .ref a :: S, w, k) r := by
  unfold ldA at h
  split at h
  · rename_i hi; exact xald h1 h2 hw hi (kk _ h)
  · cases h
theorem xzldF {α : Type} {K : Int32 → Option α} {q : α} {a n : Nat} {f : Nat → Int32} (h1 : tb_MT mi = some M) (h2 : decode (mx_cc M) pc = .ok (.baload, 1)) (hw : w[a]? = some (.inl (1, n, .inl f))) (h : ldA f n x K = some q) (kk : ∀ v, K v = some q → X mi (pc + 1, L, .int v :: S, w, k) r) : X mi (pc, L, .int x :: .ref a :: S, w, k) r := by
  unfold ldA at h
  split at h
  · rename_i hi; exact xzld h1 h2 hw hi (kk _ h)
  · cases h
theorem xstF {α : Type} {W : St → mx_W} {K : St → Option α} {q : α} {s : St} {v : Int32} {a n j : Nat} (h1 : tb_MT mi = some M) (h2 : decode (mx_cc M) pc = .ok (.iastore, 1)) (hw : (W s)[a]? = some (.inl (0, n, .inl (gA s j)))) (hs : ∀ f, (W s).set a (.inl (0, n, .inl f)) = W (sA s j f)) (h : stA s j n x v K = some q) (kk : ∀ s1, K s1 = some q → X mi (pc + 1, L, S, W s1, k) r) : X mi (pc, L, .int v :: .int x :: .ref a :: S, W s, k) r := by
  unfold stA at h
  split at h
  · rename_i hi; exact xast h1 h2 hw hi (hs _) (kk _ h)
  · cases h
theorem xzstF {α : Type} {W : St → mx_W} {K : St → Option α} {q : α} {s : St} {v : Int32} {a n j : Nat} (h1 : tb_MT mi = some M) (h2 : decode (mx_cc M) pc = .ok (.bastore, 1)) (hw : (W s)[a]? = some (.inl (1, n, .inl (gA s j)))) (hs : ∀ f, (W s).set a (.inl (1, n, .inl f)) = W (sA s j f)) (h : stA s j n x (vp_nar .boolean v) K = some q) (kk : ∀ s1, K s1 = some q → X mi (pc + 1, L, S, W s1, k) r) : X mi (pc, L, .int v :: .int x :: .ref a :: S, W s, k) r := by
  unfold stA at h
  split at h
  · rename_i hi; exact xzst h1 h2 hw hi (hs _) (kk _ h)
  · cases h
theorem xcpF {α : Type} {W : St → mx_W} {K : St → Option α} {q : α} {s : St} {sp dp z : Int32} {a0 n0 j0 a1 n1 j1 l : Nat} (h1 : tb_MT mi = some M) (h2 : decode (mx_cc M) pc = .ok (.invokestatic l, 3)) (h3 : mx_fd (mx_lm M) l = some 3) (hw0 : (W s)[a0]? = some (.inl (0, n0, .inl (gA s j0)))) (hw1 : (W s)[a1]? = some (.inl (0, n1, .inl (gA s j1)))) (hs : ∀ f, (W s).set a1 (.inl (0, n1, .inl f)) = W (sA s j1 f)) (h4 : (Nat.blt 0 (mx_rk M) && Nat.ble (mx_cs S) 8) = true) (h : cpA s j0 n0 j1 n1 sp dp z K = some q) (kk : ∀ s1, K s1 = some q → X mi (pc + 3, L, S, W s1, k) r) : X mi (pc, L, .int z :: .int dp :: .ref a1 :: .int sp :: .ref a0 :: S, W s, k) r := by
  unfold cpA at h
  split at h
  · rename_i hi
    rw [Bool.and_eq_true] at h4
    refine mx_X.go h1 h2 ?_ (kk _ h)
    show ((mx_fd (mx_lm M) l).bind fun n => bif Nat.blt 0 (mx_rk M) then mx_jdk n _ else none) = _
    rw [h3]
    show (bif Nat.blt 0 (mx_rk M) then mx_jdk 3 _ else none) = _
    rw [h4.1]
    show (match (W s)[a0]?, (W s)[a1]? with
    | some (.inl (t0, n0, .inl f)), some (.inl (t1, n1, .inl g)) => if t0 = 0 ∧ t1 = 0 ∧ Nat.ble (mx_cs S) 8 = true ∧ ¬ sp < 0 ∧ ¬ dp < 0 ∧ ¬ z < 0 ∧ sp.toNatClampNeg + z.toNatClampNeg ≤ n0 ∧ dp.toNatClampNeg + z.toNatClampNeg ≤ n1 then some (pc + 3, L, S, (W s).set a1 (.inl (0, n1, .inl (va_cpy f g sp.toNatClampNeg dp.toNatClampNeg z.toNatClampNeg))), k) else none
    | _, _ => none) = _
    rw [hw0, hw1, ← hs]
    exact if_pos ⟨rfl, rfl, h4.2, hi⟩
  · cases h
theorem xput_a0 {α : Type} {K : St → Option α} {q : α} {s : St} {rest : mx_W} {v : Int32} {l : Nat} (h1 : tb_MT mi = some M) (h2 : decode (mx_cc M) pc = .ok (.putfield l, 3)) (h3 : mx_fd (mx_lf M) l = some (4, 6)) (hz : (v == 0 || v == 1) = true) (h : bnd (sI s 0 v) K = some q) (kk : ∀ s1, K s1 = some q → X mi (pc + 3, L, S, wd s1 rest, k) r) : X mi (pc, L, .int v :: .ref 0 :: S, wd s rest, k) r := by
  refine mx_X.go h1 h2 ?_ (kk (sI s 0 v) h)
  show mx_putf tb_cl tb_ty M (mx_fd (mx_lf M) l) _ = _
  rw [h3]
  show (bif (true && true && (v == 0 || v == 1)) then _ else none) = _
  rw [hz]
  rfl
theorem xput_a1 {α : Type} {K : St → Option α} {q : α} {s : St} {rest : mx_W} {v : Int32} {l : Nat} (h1 : tb_MT mi = some M) (h2 : decode (mx_cc M) pc = .ok (.putfield l, 3)) (h3 : mx_fd (mx_lf M) l = some (4, 7)) (h : bnd (sI s 1 v) K = some q) (kk : ∀ s1, K s1 = some q → X mi (pc + 3, L, S, wd s1 rest, k) r) : X mi (pc, L, .int v :: .ref 0 :: S, wd s rest, k) r := by
  refine mx_X.go h1 h2 ?_ (kk (sI s 1 v) h)
  show mx_putf tb_cl tb_ty M (mx_fd (mx_lf M) l) _ = _
  rw [h3]
  rfl
theorem xput_a2 {α : Type} {K : St → Option α} {q : α} {s : St} {rest : mx_W} {v : Int32} {l : Nat} (h1 : tb_MT mi = some M) (h2 : decode (mx_cc M) pc = .ok (.putfield l, 3)) (h3 : mx_fd (mx_lf M) l = some (4, 8)) (h : bnd (sI s 2 v) K = some q) (kk : ∀ s1, K s1 = some q → X mi (pc + 3, L, S, wd s1 rest, k) r) : X mi (pc, L, .int v :: .ref 0 :: S, wd s rest, k) r := by
  refine mx_X.go h1 h2 ?_ (kk (sI s 2 v) h)
  show mx_putf tb_cl tb_ty M (mx_fd (mx_lf M) l) _ = _
  rw [h3]
  rfl
theorem xput_a3 {α : Type} {K : St → Option α} {q : α} {s : St} {rest : mx_W} {v : Int32} {l : Nat} (h1 : tb_MT mi = some M) (h2 : decode (mx_cc M) pc = .ok (.putfield l, 3)) (h3 : mx_fd (mx_lf M) l = some (4, 9)) (h : bnd (sI s 3 v) K = some q) (kk : ∀ s1, K s1 = some q → X mi (pc + 3, L, S, wd s1 rest, k) r) : X mi (pc, L, .int v :: .ref 0 :: S, wd s rest, k) r := by
  refine mx_X.go h1 h2 ?_ (kk (sI s 3 v) h)
  show mx_putf tb_cl tb_ty M (mx_fd (mx_lf M) l) _ = _
  rw [h3]
  rfl
theorem xput_a4 {α : Type} {K : St → Option α} {q : α} {s : St} {rest : mx_W} {v : Int32} {l : Nat} (h1 : tb_MT mi = some M) (h2 : decode (mx_cc M) pc = .ok (.putfield l, 3)) (h3 : mx_fd (mx_lf M) l = some (4, 10)) (h : bnd (sI s 4 v) K = some q) (kk : ∀ s1, K s1 = some q → X mi (pc + 3, L, S, wd s1 rest, k) r) : X mi (pc, L, .int v :: .ref 0 :: S, wd s rest, k) r := by
  refine mx_X.go h1 h2 ?_ (kk (sI s 4 v) h)
  show mx_putf tb_cl tb_ty M (mx_fd (mx_lf M) l) _ = _
  rw [h3]
  rfl
theorem xput_a5 {α : Type} {K : St → Option α} {q : α} {s : St} {rest : mx_W} {v : Int32} {l : Nat} (h1 : tb_MT mi = some M) (h2 : decode (mx_cc M) pc = .ok (.putfield l, 3)) (h3 : mx_fd (mx_lf M) l = some (4, 11)) (h : bnd (sI s 5 v) K = some q) (kk : ∀ s1, K s1 = some q → X mi (pc + 3, L, S, wd s1 rest, k) r) : X mi (pc, L, .int v :: .ref 0 :: S, wd s rest, k) r := by
  refine mx_X.go h1 h2 ?_ (kk (sI s 5 v) h)
  show mx_putf tb_cl tb_ty M (mx_fd (mx_lf M) l) _ = _
  rw [h3]
  rfl
theorem xput_a6 {α : Type} {K : St → Option α} {q : α} {s : St} {rest : mx_W} {v : Int32} {l : Nat} (h1 : tb_MT mi = some M) (h2 : decode (mx_cc M) pc = .ok (.putfield l, 3)) (h3 : mx_fd (mx_lf M) l = some (4, 12)) (h : bnd (sI s 6 v) K = some q) (kk : ∀ s1, K s1 = some q → X mi (pc + 3, L, S, wd s1 rest, k) r) : X mi (pc, L, .int v :: .ref 0 :: S, wd s rest, k) r := by
  refine mx_X.go h1 h2 ?_ (kk (sI s 6 v) h)
  show mx_putf tb_cl tb_ty M (mx_fd (mx_lf M) l) _ = _
  rw [h3]
  rfl
theorem xput_a7 {α : Type} {K : St → Option α} {q : α} {s : St} {rest : mx_W} {v : Int32} {l : Nat} (h1 : tb_MT mi = some M) (h2 : decode (mx_cc M) pc = .ok (.putfield l, 3)) (h3 : mx_fd (mx_lf M) l = some (4, 13)) (h : bnd (sI s 7 v) K = some q) (kk : ∀ s1, K s1 = some q → X mi (pc + 3, L, S, wd s1 rest, k) r) : X mi (pc, L, .int v :: .ref 0 :: S, wd s rest, k) r := by
  refine mx_X.go h1 h2 ?_ (kk (sI s 7 v) h)
  show mx_putf tb_cl tb_ty M (mx_fd (mx_lf M) l) _ = _
  rw [h3]
  rfl
theorem xput_a8 {α : Type} {K : St → Option α} {q : α} {s : St} {rest : mx_W} {v : Int32} {l : Nat} (h1 : tb_MT mi = some M) (h2 : decode (mx_cc M) pc = .ok (.putfield l, 3)) (h3 : mx_fd (mx_lf M) l = some (2, 3)) (h : bnd (sI s 8 v) K = some q) (kk : ∀ s1, K s1 = some q → X mi (pc + 3, L, S, wd s1 rest, k) r) : X mi (pc, L, .int v :: .ref 5 :: S, wd s rest, k) r := by
  refine mx_X.go h1 h2 ?_ (kk (sI s 8 v) h)
  show mx_putf tb_cl tb_ty M (mx_fd (mx_lf M) l) _ = _
  rw [h3]
  rfl
theorem xput_a9 {α : Type} {K : St → Option α} {q : α} {s : St} {rest : mx_W} {v : Int32} {l : Nat} (h1 : tb_MT mi = some M) (h2 : decode (mx_cc M) pc = .ok (.putfield l, 3)) (h3 : mx_fd (mx_lf M) l = some (1, 4)) (h : bnd (sI s 9 v) K = some q) (kk : ∀ s1, K s1 = some q → X mi (pc + 3, L, S, wd s1 rest, k) r) : X mi (pc, L, .int v :: .ref 11 :: S, wd s rest, k) r := by
  refine mx_X.go h1 h2 ?_ (kk (sI s 9 v) h)
  show mx_putf tb_cl tb_ty M (mx_fd (mx_lf M) l) _ = _
  rw [h3]
  rfl
theorem xput_a10 {α : Type} {K : St → Option α} {q : α} {s : St} {rest : mx_W} {v : Int32} {l : Nat} (h1 : tb_MT mi = some M) (h2 : decode (mx_cc M) pc = .ok (.putfield l, 3)) (h3 : mx_fd (mx_lf M) l = some (1, 5)) (h : bnd (sI s 10 v) K = some q) (kk : ∀ s1, K s1 = some q → X mi (pc + 3, L, S, wd s1 rest, k) r) : X mi (pc, L, .int v :: .ref 11 :: S, wd s rest, k) r := by
  refine mx_X.go h1 h2 ?_ (kk (sI s 10 v) h)
  show mx_putf tb_cl tb_ty M (mx_fd (mx_lf M) l) _ = _
  rw [h3]
  rfl
theorem xput_b0 {α : Type} {K : St → Option α} {q : α} {d s : St} {rest : mx_W} {v : Int32} {l : Nat} (h1 : tb_MT mi = some M) (h2 : decode (mx_cc M) pc = .ok (.putfield l, 3)) (h3 : mx_fd (mx_lf M) l = some (5, 0)) (h : bnd (sI s 0 v) K = some q) (kk : ∀ s1, K s1 = some q → X mi (pc + 3, L, S, wd d (wm s1 rest), k) r) : X mi (pc, L, .int v :: .ref 18 :: S, wd d (wm s rest), k) r := by
  refine mx_X.go h1 h2 ?_ (kk (sI s 0 v) h)
  show mx_putf tb_cl tb_ty M (mx_fd (mx_lf M) l) _ = _
  rw [h3]
  rfl
theorem xput_b1 {α : Type} {K : St → Option α} {q : α} {d s : St} {rest : mx_W} {v : Int32} {l : Nat} (h1 : tb_MT mi = some M) (h2 : decode (mx_cc M) pc = .ok (.putfield l, 3)) (h3 : mx_fd (mx_lf M) l = some (5, 4)) (hz : (v == 0 || v == 1) = true) (h : bnd (sI s 1 v) K = some q) (kk : ∀ s1, K s1 = some q → X mi (pc + 3, L, S, wd d (wm s1 rest), k) r) : X mi (pc, L, .int v :: .ref 18 :: S, wd d (wm s rest), k) r := by
  refine mx_X.go h1 h2 ?_ (kk (sI s 1 v) h)
  show mx_putf tb_cl tb_ty M (mx_fd (mx_lf M) l) _ = _
  rw [h3]
  show (bif (true && true && (v == 0 || v == 1)) then _ else none) = _
  rw [hz]
  rfl
theorem xput_b2 {α : Type} {K : St → Option α} {q : α} {d s : St} {rest : mx_W} {v : Int32} {l : Nat} (h1 : tb_MT mi = some M) (h2 : decode (mx_cc M) pc = .ok (.putfield l, 3)) (h3 : mx_fd (mx_lf M) l = some (5, 5)) (h : bnd (sI s 2 v) K = some q) (kk : ∀ s1, K s1 = some q → X mi (pc + 3, L, S, wd d (wm s1 rest), k) r) : X mi (pc, L, .int v :: .ref 18 :: S, wd d (wm s rest), k) r := by
  refine mx_X.go h1 h2 ?_ (kk (sI s 2 v) h)
  show mx_putf tb_cl tb_ty M (mx_fd (mx_lf M) l) _ = _
  rw [h3]
  rfl
theorem xput_b3 {α : Type} {K : St → Option α} {q : α} {d s : St} {rest : mx_W} {v : Int32} {l : Nat} (h1 : tb_MT mi = some M) (h2 : decode (mx_cc M) pc = .ok (.putfield l, 3)) (h3 : mx_fd (mx_lf M) l = some (5, 6)) (h : bnd (sI s 3 v) K = some q) (kk : ∀ s1, K s1 = some q → X mi (pc + 3, L, S, wd d (wm s1 rest), k) r) : X mi (pc, L, .int v :: .ref 18 :: S, wd d (wm s rest), k) r := by
  refine mx_X.go h1 h2 ?_ (kk (sI s 3 v) h)
  show mx_putf tb_cl tb_ty M (mx_fd (mx_lf M) l) _ = _
  rw [h3]
  rfl
theorem xput_b4 {α : Type} {K : St → Option α} {q : α} {d s : St} {rest : mx_W} {v : Int32} {l : Nat} (h1 : tb_MT mi = some M) (h2 : decode (mx_cc M) pc = .ok (.putfield l, 3)) (h3 : mx_fd (mx_lf M) l = some (5, 7)) (h : bnd (sI s 4 v) K = some q) (kk : ∀ s1, K s1 = some q → X mi (pc + 3, L, S, wd d (wm s1 rest), k) r) : X mi (pc, L, .int v :: .ref 18 :: S, wd d (wm s rest), k) r := by
  refine mx_X.go h1 h2 ?_ (kk (sI s 4 v) h)
  show mx_putf tb_cl tb_ty M (mx_fd (mx_lf M) l) _ = _
  rw [h3]
  rfl
theorem xput_b5 {α : Type} {K : St → Option α} {q : α} {d s : St} {rest : mx_W} {v : Int32} {l : Nat} (h1 : tb_MT mi = some M) (h2 : decode (mx_cc M) pc = .ok (.putfield l, 3)) (h3 : mx_fd (mx_lf M) l = some (5, 8)) (h : bnd (sI s 5 v) K = some q) (kk : ∀ s1, K s1 = some q → X mi (pc + 3, L, S, wd d (wm s1 rest), k) r) : X mi (pc, L, .int v :: .ref 18 :: S, wd d (wm s rest), k) r := by
  refine mx_X.go h1 h2 ?_ (kk (sI s 5 v) h)
  show mx_putf tb_cl tb_ty M (mx_fd (mx_lf M) l) _ = _
  rw [h3]
  rfl
theorem xput_b6 {α : Type} {K : St → Option α} {q : α} {d s : St} {rest : mx_W} {v : Int32} {l : Nat} (h1 : tb_MT mi = some M) (h2 : decode (mx_cc M) pc = .ok (.putfield l, 3)) (h3 : mx_fd (mx_lf M) l = some (5, 9)) (h : bnd (sI s 6 v) K = some q) (kk : ∀ s1, K s1 = some q → X mi (pc + 3, L, S, wd d (wm s1 rest), k) r) : X mi (pc, L, .int v :: .ref 18 :: S, wd d (wm s rest), k) r := by
  refine mx_X.go h1 h2 ?_ (kk (sI s 6 v) h)
  show mx_putf tb_cl tb_ty M (mx_fd (mx_lf M) l) _ = _
  rw [h3]
  rfl
theorem xput_b7 {α : Type} {K : St → Option α} {q : α} {d s : St} {rest : mx_W} {v : Int32} {l : Nat} (h1 : tb_MT mi = some M) (h2 : decode (mx_cc M) pc = .ok (.putfield l, 3)) (h3 : mx_fd (mx_lf M) l = some (5, 10)) (h : bnd (sI s 7 v) K = some q) (kk : ∀ s1, K s1 = some q → X mi (pc + 3, L, S, wd d (wm s1 rest), k) r) : X mi (pc, L, .int v :: .ref 18 :: S, wd d (wm s rest), k) r := by
  refine mx_X.go h1 h2 ?_ (kk (sI s 7 v) h)
  show mx_putf tb_cl tb_ty M (mx_fd (mx_lf M) l) _ = _
  rw [h3]
  rfl
theorem xput_b8 {α : Type} {K : St → Option α} {q : α} {d s : St} {rest : mx_W} {v : Int32} {l : Nat} (h1 : tb_MT mi = some M) (h2 : decode (mx_cc M) pc = .ok (.putfield l, 3)) (h3 : mx_fd (mx_lf M) l = some (5, 11)) (h : bnd (sI s 8 v) K = some q) (kk : ∀ s1, K s1 = some q → X mi (pc + 3, L, S, wd d (wm s1 rest), k) r) : X mi (pc, L, .int v :: .ref 18 :: S, wd d (wm s rest), k) r := by
  refine mx_X.go h1 h2 ?_ (kk (sI s 8 v) h)
  show mx_putf tb_cl tb_ty M (mx_fd (mx_lf M) l) _ = _
  rw [h3]
  rfl
theorem xput_b9 {α : Type} {K : St → Option α} {q : α} {d s : St} {rest : mx_W} {v : Int32} {l : Nat} (h1 : tb_MT mi = some M) (h2 : decode (mx_cc M) pc = .ok (.putfield l, 3)) (h3 : mx_fd (mx_lf M) l = some (5, 13)) (h : bnd (sI s 9 v) K = some q) (kk : ∀ s1, K s1 = some q → X mi (pc + 3, L, S, wd d (wm s1 rest), k) r) : X mi (pc, L, .int v :: .ref 18 :: S, wd d (wm s rest), k) r := by
  refine mx_X.go h1 h2 ?_ (kk (sI s 9 v) h)
  show mx_putf tb_cl tb_ty M (mx_fd (mx_lf M) l) _ = _
  rw [h3]
  rfl
theorem xput_b10 {α : Type} {K : St → Option α} {q : α} {d s : St} {rest : mx_W} {v : Int32} {l : Nat} (h1 : tb_MT mi = some M) (h2 : decode (mx_cc M) pc = .ok (.putfield l, 3)) (h3 : mx_fd (mx_lf M) l = some (5, 19)) (h : bnd (sI s 10 v) K = some q) (kk : ∀ s1, K s1 = some q → X mi (pc + 3, L, S, wd d (wm s1 rest), k) r) : X mi (pc, L, .int v :: .ref 18 :: S, wd d (wm s rest), k) r := by
  refine mx_X.go h1 h2 ?_ (kk (sI s 10 v) h)
  show mx_putf tb_cl tb_ty M (mx_fd (mx_lf M) l) _ = _
  rw [h3]
  rfl
end XF
end
