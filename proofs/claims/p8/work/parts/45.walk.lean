/-! rows of a walk in the small machine -/
abbrev X (mi : Nat) (st : mx_S) (r : mx_A) : Prop := mx_X tb_cl tb_ty tb_MT mi st r
/-- several steps at once -/
def xs_run (M : mx_M) : List (Nat × Instr × Nat) → mx_S → Option mx_S
  | [], st => some st
  | q :: is, st => bif st.1 == q.1 then (mx_go tb_cl tb_ty M q.2.1 q.2.2 st).bind (xs_run M is) else none
theorem xs {mi : Nat} {M : mx_M} (h1 : tb_MT mi = some M) {r : mx_A} : ∀ (is : List (Nat × Instr × Nat)) {st st' : mx_S}, (∀ q ∈ is, decode (mx_cc M) q.1 = .ok q.2) → xs_run M is st = some st' → X mi st' r → X mi st r := by
  intro is
  induction is with
  | nil => intro st st' _ h k; cases h; exact k
  | cons q is ih =>
    intro st st' hd h k
    unfold xs_run at h
    cases hq : (st.1 == q.1) with
    | false => rw [hq] at h; cases h
    | true =>
      rw [hq] at h
      simp only [cond_true] at h
      obtain ⟨st1, h2, h3⟩ := mx_bind h
      have hd1 := hd q List.mem_cons_self
      have hq : st.1 = q.1 := by simpa using hq
      rw [← hq] at hd1
      exact mx_X.go h1 hd1 h2 (ih (fun z hz => hd z (List.mem_cons_of_mem _ hz)) h3 k)
section XW
variable {mi : Nat} {M : mx_M} {r : mx_A} {pc : Nat} {L : mx_L} {S : List Value} {w : mx_W} {k : Nat × Nat} {t : Nat} {off : Int} {x y : Int32}
theorem xg {st st' : mx_S} {i : Instr} {len : Nat} (h1 : tb_MT mi = some M) (h2 : decode (mx_cc M) st.1 = .ok (i, len)) (h3 : mx_go tb_cl tb_ty M i len st = some st') (kk : X mi st' r) : X mi st r := mx_X.go h1 h2 h3 kk
theorem xif {c : Jvm.ClassFile.Cond} (h1 : tb_MT mi = some M) (h2 : decode (mx_cc M) pc = .ok (.ifCond c off, 3)) (ht : (pc : Int) + off = (t : Int)) (kt : mx_cnd c x 0 = true → X mi (t, L, S, w, k) r) (kf : mx_cnd c x 0 = false → X mi (pc + 3, L, S, w, k) r) : X mi (pc, L, .int x :: S, w, k) r := by
  have h0 : decide (0 ≤ (pc : Int) + off) = true := decide_eq_true (by omega)
  have ht2 : mx_to pc off = t := by unfold mx_to; omega
  refine mx_X.go (st' := (cond (mx_cnd c x 0) (mx_to pc off) (pc + 3), L, S, w, k)) h1 h2 ?_ ?_
  · show (bif decide (0 ≤ (pc : Int) + off) then some (cond (mx_cnd c x 0) (mx_to pc off) (pc + 3), L, S, w, k) else none) = _
    rw [h0]; rfl
  · cases hc : mx_cnd c x 0 with
    | true => rw [ht2]; exact kt hc
    | false => exact kf hc
theorem xcmp {c : Jvm.ClassFile.Cond} (h1 : tb_MT mi = some M) (h2 : decode (mx_cc M) pc = .ok (.if_icmp c off, 3)) (ht : (pc : Int) + off = (t : Int)) (kt : mx_cnd c x y = true → X mi (t, L, S, w, k) r) (kf : mx_cnd c x y = false → X mi (pc + 3, L, S, w, k) r) : X mi (pc, L, .int y :: .int x :: S, w, k) r := by
  have h0 : decide (0 ≤ (pc : Int) + off) = true := decide_eq_true (by omega)
  have ht2 : mx_to pc off = t := by unfold mx_to; omega
  refine mx_X.go (st' := (cond (mx_cnd c x y) (mx_to pc off) (pc + 3), L, S, w, k)) h1 h2 ?_ ?_
  · show (bif decide (0 ≤ (pc : Int) + off) then some (cond (mx_cnd c x y) (mx_to pc off) (pc + 3), L, S, w, k) else none) = _
    rw [h0]; rfl
  · cases hc : mx_cnd c x y with
    | true => rw [ht2]; exact kt hc
    | false => exact kf hc
/-- the branch's word as a proposition -/
theorem xc_t {c : Jvm.ClassFile.Cond} (h : mx_cnd c x y = true) : (match c with | .eq => x = y | .ne => ¬ x = y | .lt => x < y | .ge => y ≤ x | .gt => y < x | .le => x ≤ y) := by
  cases c <;> exact of_decide_eq_true h
theorem xc_f {c : Jvm.ClassFile.Cond} (h : mx_cnd c x y = false) : (match c with | .eq => ¬ x = y | .ne => x = y | .lt => ¬ x < y | .ge => ¬ y ≤ x | .gt => ¬ y < x | .le => ¬ x ≤ y) := by
  cases c
  case ne => exact Decidable.not_not.mp (of_decide_eq_false h)
  all_goals exact of_decide_eq_false h
theorem xald {i : Int32} {a N : Nat} {f : Nat → Int32} (h1 : tb_MT mi = some M) (h2 : decode (mx_cc M) pc = .ok (.iaload, 1)) (hw : w[a]? = some (.inl (0, N, .inl f))) (hi : vp_in i N) (kk : X mi (pc + 1, L, .int (f i.toNatClampNeg) :: S, w, k) r) : X mi (pc, L, .int i :: .ref a :: S, w, k) r := by
  refine mx_X.go h1 h2 ?_ kk
  show (match w[a]? with
    | some (.inl (t', N, .inl f)) => if t' = 0 ∧ ¬ (i < 0 ∨ N ≤ i.toNatClampNeg) then some (pc + 1, L, Value.int (f i.toNatClampNeg) :: S, w, k) else none
    | _ => none) = _
  rw [hw]
  exact if_pos ⟨rfl, hi⟩
theorem xzld {i : Int32} {a N : Nat} {f : Nat → Int32} (h1 : tb_MT mi = some M) (h2 : decode (mx_cc M) pc = .ok (.baload, 1)) (hw : w[a]? = some (.inl (1, N, .inl f))) (hi : vp_in i N) (kk : X mi (pc + 1, L, .int (f i.toNatClampNeg) :: S, w, k) r) : X mi (pc, L, .int i :: .ref a :: S, w, k) r := by
  refine mx_X.go h1 h2 ?_ kk
  show (match w[a]? with
    | some (.inl (t', N, .inl f)) => if t' = 1 ∧ ¬ (i < 0 ∨ N ≤ i.toNatClampNeg) then some (pc + 1, L, Value.int (f i.toNatClampNeg) :: S, w, k) else none
    | _ => none) = _
  rw [hw]
  exact if_pos ⟨rfl, hi⟩
theorem xast {i v : Int32} {a N : Nat} {f : Nat → Int32} {w' : mx_W} (h1 : tb_MT mi = some M) (h2 : decode (mx_cc M) pc = .ok (.iastore, 1)) (hw : w[a]? = some (.inl (0, N, .inl f))) (hi : vp_in i N) (hw' : w.set a (.inl (0, N, .inl (upd f i.toNatClampNeg v))) = w') (kk : X mi (pc + 1, L, S, w', k) r) : X mi (pc, L, .int v :: .int i :: .ref a :: S, w, k) r := by
  subst hw'
  refine mx_X.go h1 h2 ?_ kk
  show (match w[a]? with
    | some (.inl (t', N, .inl f)) => if t' = 0 ∧ ¬ (i < 0 ∨ N ≤ i.toNatClampNeg) then some (pc + 1, L, S, w.set a (.inl (0, N, .inl (upd f i.toNatClampNeg ((fun z => z) v)))), k) else none
    | _ => none) = _
  rw [hw]
  exact if_pos ⟨rfl, hi⟩
theorem xzst {i v : Int32} {a N : Nat} {f : Nat → Int32} {w' : mx_W} (h1 : tb_MT mi = some M) (h2 : decode (mx_cc M) pc = .ok (.bastore, 1)) (hw : w[a]? = some (.inl (1, N, .inl f))) (hi : vp_in i N) (hw' : w.set a (.inl (1, N, .inl (upd f i.toNatClampNeg (vp_nar .boolean v)))) = w') (kk : X mi (pc + 1, L, S, w', k) r) : X mi (pc, L, .int v :: .int i :: .ref a :: S, w, k) r := by
  subst hw'
  refine mx_X.go h1 h2 ?_ kk
  show (match w[a]? with
    | some (.inl (t', N, .inl f)) => if t' = 1 ∧ ¬ (i < 0 ∨ N ≤ i.toNatClampNeg) then some (pc + 1, L, S, w.set a (.inl (1, N, .inl (upd f i.toNatClampNeg (vp_nar .boolean v)))), k) else none
    | _ => none) = _
  rw [hw]
  exact if_pos ⟨rfl, hi⟩
theorem xret {v : Int32} (h1 : tb_MT mi = some M) (hr : mx_ret M = some .int) (h2 : decode (mx_cc M) pc = .ok (.ireturn, 1)) : X mi (pc, L, [.int v], w, k) (some (.int v), w, k) := mx_X.fin h1 h2 (by unfold mx_end; rw [hr])
theorem xretz {v : Int32} (h1 : tb_MT mi = some M) (hr : mx_ret M = some .boolean) (hv : v = 0 ∨ v = 1) (h2 : decode (mx_cc M) pc = .ok (.ireturn, 1)) : X mi (pc, L, [.int v], w, k) (some (.int v), w, k) := mx_X.fin h1 h2 (by unfold mx_end; rw [hr]; exact if_pos hv)
theorem xretv (h1 : tb_MT mi = some M) (hr : mx_ret M = none) (h2 : decode (mx_cc M) pc = .ok (.return_, 1)) : X mi (pc, L, [], w, k) (none, w, k) := mx_X.fin h1 h2 (by unfold mx_end; rw [hr])
/-- a call that makes nothing -/
theorem xcall {M' : mx_M} {i : Instr} {n : Nat} {av rest : List Value} {v : Option Value} {w' : mx_W} (h1 : tb_MT mi = some M) (h2 : decode (mx_cc M) pc = .ok (i, 3)) (h3 : mx_cal tb_MT M i (pc, L, S, w, k) = some (n, M', av, rest)) (h6 : Nat.ble (mx_cs av) (mx_ml M') = true) (h4 : X n (0, lv_args 0 av, [], w, 0, 0) (v, w', 0, 0)) (kk : X mi (pc + 3, L, v.toList ++ rest, w', k) r) : X mi (pc, L, S, w, k) r :=
  mx_X.call h1 h2 h3 h6 h4 (Or.inl rfl) kk
end XW
