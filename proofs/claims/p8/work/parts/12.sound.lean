/-! the small machine's steps are the machine's -/
def mx_tys (cT : Nat → ClassId) : List (ClassId × FieldType) := [(cT 0, .int), (cT 1, .boolean), (cT 2, .long)]
/-- the words of a class -/
def mx_okC (GT : List Jvm.Cond) (ty : Nat → Nat → FieldType) (ci : Nat) (r : vw_C) : Prop := (∀ w ∈ u_ws r.1 r.2.1 r.2.2, w ∈ GT) ∧ (∀ k, k < r.2.2 → parseFieldDescriptor (r.2.1 k).2.2.1 = some (ty ci k)) ∧ (∀ a, a < r.2.2 → ∀ b, b < r.2.2 → a ≠ b → (r.2.1 a).2.1 ≠ (r.2.1 b).2.1) ∧ Jvm.Cond.instantiable r.1 r.2.2 ∈ GT ∧ Jvm.Cond.initialized r.1 ∈ GT ∧ (∀ k, k < r.2.2 → (r.2.1 k).1 = r.1)
/-- the words of the JDK's steps and of arrays -/
def mx_okJ (GT : List Jvm.Cond) : Prop := Jvm.Cond.instanceMethod Lib.objectInit ∈ GT ∧ Jvm.Cond.code Lib.objectInit ⟨#[0xb1]⟩ 1 none ∈ GT ∧ Jvm.Cond.static Lib.Math.max.name ∈ GT ∧ Jvm.Cond.static Lib.Math.min.name ∈ GT ∧ Jvm.Cond.initialized "java/lang/Math" ∈ GT ∧ Jvm.Cond.code Lib.Math.max.name Lib.Math.max.code 2 (some .int) ∈ GT ∧ Jvm.Cond.code Lib.Math.min.name Lib.Math.min.code 2 (some .int) ∈ GT ∧ Jvm.Cond.native arraycopyName ∈ GT ∧ Jvm.Cond.static arraycopyName ∈ GT ∧ Jvm.Cond.initialized "java/lang/System" ∈ GT ∧ Jvm.Cond.arrayClass .int ∈ GT ∧ Jvm.Cond.arrayClass .boolean ∈ GT ∧ Jvm.Cond.arrayClass .long ∈ GT
/-- the words of a method's links -/
def mx_okL (cl : List vw_C) (GT NW : List Jvm.Cond) (MT : Nat → Option mx_M) (M : mx_M) : Prop :=
  (∀ q ∈ mx_lf M, ∃ r : vw_C, cl[q.2.1]? = some r ∧ q.2.2 < r.2.2 ∧ Jvm.Cond.fieldLink (mx_own M) q.1 (r.2.1 q.2.2).1 (r.2.1 q.2.2).2.1 (r.2.1 q.2.2).2.2.1 ∈ GT) ∧
  (∀ q ∈ mx_lc M, ∃ r : vw_C, cl[q.2]? = some r ∧ Jvm.Cond.classLink (mx_own M) q.1 r.1 ∈ GT) ∧
  (∀ q ∈ mx_lk M, Jvm.Cond.constant (mx_own M) q.1 q.2 ∈ GT) ∧ (∀ q ∈ mx_ll M, Jvm.Cond.constantLong (mx_own M) q.1 q.2 ∈ GT) ∧
  (∀ q ∈ mx_lm M, (q.2 = 0 ∧ Jvm.Cond.methodLink (mx_own M) q.1 Lib.objectInit ∈ GT) ∨ (q.2 = 1 ∧ Jvm.Cond.methodLink (mx_own M) q.1 Lib.Math.max.name ∈ GT) ∨ (q.2 = 2 ∧ Jvm.Cond.methodLink (mx_own M) q.1 Lib.Math.min.name ∈ GT) ∨ (q.2 = 3 ∧ Jvm.Cond.methodLink (mx_own M) q.1 arraycopyName ∈ GT) ∨
    (4 ≤ q.2 ∧ ∀ M', MT q.2 = some M' → Jvm.Cond.methodLink (mx_own M) q.1 (mx_y M') ∈ GT ∨ ∃ host, Jvm.Cond.methodLinkNest (mx_own M) q.1 (mx_y M') host ∈ NW))
/-- the words of a method itself -/
def mx_okY (cl : List vw_C) (GT : List Jvm.Cond) (M : mx_M) : Prop := plainName (mx_y M).cls = true ∧ mx_own M = (mx_y M).cls ∧ Jvm.Cond.code (mx_y M) (mx_cc M) (mx_ml M) (mx_ret M) ∈ GT ∧ Jvm.Cond.initialized (mx_y M).cls ∈ GT ∧ (mx_y M).cls ≠ "java/lang/invoke/MethodHandle" ∧ (mx_y M).cls ≠ "java/lang/invoke/VarHandle" ∧ (parseMethodDescriptor (mx_y M).desc).map (fun d => d.parameters.length) = some (mx_np M) ∧ mx_ml M ≤ 100 ∧
  (mx_kd M = 1 → Jvm.Cond.static (mx_y M) ∈ GT) ∧ (mx_kd M = 0 → Jvm.Cond.instanceMethod (mx_y M) ∈ GT ∧ Jvm.Cond.selects (mx_y M).cls (mx_y M) (mx_y M) ∈ GT ∧ ∃ rr, cl[mx_ci M]? = some rr ∧ rr.1 = (mx_y M).cls) ∧ (mx_kd M = 2 → Jvm.Cond.instanceMethod (mx_y M) ∈ GT ∧ (mx_y M).name = "<init>" ∧ mx_ret M = none ∧ ∃ rr, cl[mx_ci M]? = some rr ∧ rr.1 = (mx_y M).cls)
section MXS
variable {p : Program} {l : Launch} {e : Env} {R : Room} {s : State} {m : MethodId} {args : Array Value} {below : List Frame} {meth : Method} {c : Code} {Q : State → Prop}
variable {D : va_G} {cl : List vw_C} {cT : Nat → ClassId} {A : Nat → Prop} {nL n0 : Nat} {ad0 : Nat → Nat}
/-- from every heap that holds this state of the small machine, the machine comes to Q -/
def mx_G (p : Program) (l : Launch) (e : Env) (R : Room) (s : State) (m : MethodId) (args : Array Value) (below : List Frame) (meth : Method) (c : Code) (Q : State → Prop) (D : va_G) (cl : List vw_C) (cT : Nat → ClassId) (A : Nat → Prop) (nL n0 : Nat) (ad0 : Nat → Nat) (st : mx_S) : Prop :=
  ∀ (ad : Nat → Nat) (H : Heap) (locs : List Loc) (ls : Array Slot), (∀ k, k < n0 ∨ st.2.2.2.1.length ≤ k → ad k = ad0 k) → (st.2.2.2.2.1 = 0 → ad = ad0) → n0 ≤ st.2.2.2.1.length → va_P D cl (mx_w cT ad st.2.2.2.1) H → va_D A (mx_w cT ad st.2.2.2.1) → va_S A s.heap H locs → lv_has ls nL (mx_l ad st.2.1) →
    W p l e R s m args below meth c H locs st.2.2.2.2.1 st.2.2.2.2.2 Q (F0 m st.1 ls (st.2.2.1.map (mx_v ad)))
theorem mx_h1 {n0 a : Nat} {ad ad0 : Nat → Nat} {w : mx_W} {c : mx_C} (h : ∀ k, k < n0 ∨ w.length ≤ k → ad k = ad0 k) : ∀ k, k < n0 ∨ (w.set a c).length ≤ k → ad k = ad0 k := fun k hk => h k (hk.imp id (fun z => by rw [List.length_set] at z; exact z))
theorem mx_h1p {n0 q : Nat} {ad ad0 : Nat → Nat} {w : mx_W} {c : mx_C} (hl : w.length < 1000) (h3 : n0 ≤ w.length) (h : ∀ k, k < n0 ∨ w.length ≤ k → ad k = ad0 k) : ∀ k, k < n0 ∨ (w ++ [c]).length ≤ k → mx_ext ad w.length q k = ad0 k := by
  intro k hk
  rw [List.length_append] at hk
  rcases hk with hk | hk
  · rw [mx_ext_ag hl k (Or.inl (Nat.lt_of_lt_of_le hk h3))]
    exact h k (Or.inl hk)
  · have h9 : w.length + 1 ≤ k := hk
    unfold mx_ext
    rw [if_neg (by omega)]
    exact h k (Or.inr (by omega))
theorem mx_pure {pc pc' : Nat} {L : mx_L} {S S' : List Value} {k : mx_W × Nat × Nat} (h : ∀ (ad : Nat → Nat) (H : Heap) (locs : List Loc) (ls : Array Slot), lv_has ls nL (mx_l ad L) → W p l e R s m args below meth c H locs k.2.1 k.2.2 Q (F0 m pc' ls (S'.map (mx_v ad))) → W p l e R s m args below meth c H locs k.2.1 k.2.2 Q (F0 m pc ls (S.map (mx_v ad))))
    (kk : mx_G p l e R s m args below meth c Q D cl cT A nL n0 ad0 (pc', L, S', k)) : mx_G p l e R s m args below meth c Q D cl cT A nL n0 ad0 (pc, L, S, k) :=
  fun ad H locs ls h1 h2 h3 h4 h5 h6 h7 => h ad H locs ls h7 (kk ad H locs ls h1 h2 h3 h4 h5 h6 h7)
theorem mx_lvv {ls : Array Slot} {ad : Nat → Nat} {L : mx_L} {i : Nat} {v : Value} (hl : lv_has ls nL (mx_l ad L)) (h : mx_fd L i = some v) : ls[i]? = some (.val (mx_v ad v)) := hl.2.2 _ (mx_l_mem h)
theorem mx_ii_inv {f : Int32 → Int32 → Int32} {st st' : mx_S} (h : mx_ii f st = some st') : ∃ pc L y x r k, st = (pc, L, .int y :: .int x :: r, k) ∧ st' = (pc + 1, L, .int (f x y) :: r, k) := by
  unfold mx_ii at h
  split at h
  · cases h; exact ⟨_, _, _, _, _, _, rfl, rfl⟩
  · cases h
theorem mx_dv_inv {f : Int32 → Int32 → Int32} {st st' : mx_S} (h : mx_dv f st = some st') : ∃ pc L y x r k, st = (pc, L, .int y :: .int x :: r, k) ∧ st' = (pc + 1, L, .int (f x y) :: r, k) ∧ ¬ y = 0 := by
  unfold mx_dv at h
  split at h
  · split at h
    · cases h
    · cases h; exact ⟨_, _, _, _, _, _, rfl, rfl, by assumption⟩
  · cases h
theorem mx_i2_inv {f : Int64 → Int64 → Int64} {st st' : mx_S} (h : mx_i2 f st = some st') : ∃ pc L y x r k, st = (pc, L, .long y :: .long x :: r, k) ∧ st' = (pc + 1, L, .long (f x y) :: r, k) := by
  unfold mx_i2 at h
  split at h
  · cases h; exact ⟨_, _, _, _, _, _, rfl, rfl⟩
  · cases h
theorem mx_ls_inv {f : Int64 → Int32 → Int64} {st st' : mx_S} (h : mx_ls f st = some st') : ∃ pc L y x r k, st = (pc, L, .int y :: .long x :: r, k) ∧ st' = (pc + 1, L, .long (f x y) :: r, k) := by
  unfold mx_ls at h
  split at h
  · cases h; exact ⟨_, _, _, _, _, _, rfl, rfl⟩
  · cases h
theorem mx_goto_inv {off : Int} {st st' : mx_S} (h : mx_goto off st = some st') : 0 ≤ (st.1 : Int) + off ∧ st' = (mx_to st.1 off, st.2) := by
  unfold mx_goto at h
  cases hd : decide (0 ≤ (st.1 : Int) + off) with
  | false => rw [hd] at h; cases h
  | true => rw [hd] at h; cases h; exact ⟨of_decide_eq_true hd, rfl⟩
theorem mx_to_eq {pc : Nat} {off : Int} (h : 0 ≤ (pc : Int) + off) : (pc : Int) + off = (mx_to pc off : Int) := by
  unfold mx_to
  omega
theorem mx_bif {α : Type} {b : Bool} {x : Option α} {y : α} (h : (bif b then x else none) = some y) : b = true ∧ x = some y := by
  cases b with
  | false => cases h
  | true => exact ⟨rfl, h⟩
theorem mx_fit_ok {ty : FieldType} {v : Value} (ad : Nat → Nat) (h : mx_fit ty v = true) : narrow ty (mx_v ad v) = mx_v ad v ∧ fits ty (mx_v ad v) = true := by
  unfold mx_fit at h
  split at h
  · exact ⟨rfl, rfl⟩
  · rcases Bool.or_eq_true_iff.mp h with h | h
    · rw [beq_iff_eq] at h; subst h; exact ⟨rfl, rfl⟩
    · rw [beq_iff_eq] at h; subst h; exact ⟨rfl, rfl⟩
  · exact ⟨rfl, rfl⟩
  · exact ⟨rfl, rfl⟩
  · cases h
end MXS
